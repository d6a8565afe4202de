theorem dX7_allez_109 : decode cX7_allez 109 = .ok (.aload_n 1, 1) := by decide +kernel
theorem dX7_allez_110 : decode cX7_allez 110 = .ok (.getfield 141, 3) := by decide +kernel
theorem dX7_allez_113 : decode cX7_allez 113 = .ok (.ireturn, 1) := by decide +kernel
theorem dX7_contact_0 : decode cX7_contact 0 = .ok (.iload_n 1, 1) := by decide +kernel
theorem dX7_contact_1 : decode cX7_contact 1 = .ok (.invokestatic 144, 3) := by decide +kernel
theorem dX7_contact_4 : decode cX7_contact 4 = .ok (.ifCond .ne 13, 3) := by decide +kernel
theorem dX7_contact_7 : decode cX7_contact 7 = .ok (.new 74, 3) := by decide +kernel
theorem dX7_contact_10 : decode cX7_contact 10 = .ok (.dup, 1) := by decide +kernel
theorem dX7_contact_11 : decode cX7_contact 11 = .ok (.ldc 179, 2) := by decide +kernel
theorem dX7_contact_13 : decode cX7_contact 13 = .ok (.invokespecial 78, 3) := by decide +kernel
theorem dX7_contact_16 : decode cX7_contact 16 = .ok (.athrow, 1) := by decide +kernel
theorem dX7_contact_17 : decode cX7_contact 17 = .ok (.aload_n 0, 1) := by decide +kernel
theorem dX7_contact_18 : decode cX7_contact 18 = .ok (.iload_n 3, 1) := by decide +kernel
theorem dX7_contact_19 : decode cX7_contact 19 = .ok (.invokevirtual 181, 3) := by decide +kernel
theorem dX7_contact_22 : decode cX7_contact 22 = .ok (.ifCond .eq 13, 3) := by decide +kernel
theorem dX7_contact_25 : decode cX7_contact 25 = .ok (.new 93, 3) := by decide +kernel
theorem dX7_contact_28 : decode cX7_contact 28 = .ok (.dup, 1) := by decide +kernel
theorem dX7_contact_29 : decode cX7_contact 29 = .ok (.ldc 184, 2) := by decide +kernel
theorem dX7_contact_31 : decode cX7_contact 31 = .ok (.invokespecial 97, 3) := by decide +kernel
theorem dX7_contact_34 : decode cX7_contact 34 = .ok (.athrow, 1) := by decide +kernel
theorem dX7_contact_35 : decode cX7_contact 35 = .ok (.aload_n 0, 1) := by decide +kernel
theorem dX7_contact_36 : decode cX7_contact 36 = .ok (.getfield 30, 3) := by decide +kernel
theorem dX7_contact_39 : decode cX7_contact 39 = .ok (.getfield 101, 3) := by decide +kernel
theorem dX7_contact_42 : decode cX7_contact 42 = .ok (.astore 4, 2) := by decide +kernel
theorem dX7_contact_44 : decode cX7_contact 44 = .ok (.aload 4, 2) := by decide +kernel
theorem dX7_contact_46 : decode cX7_contact 46 = .ok (.ifnull 11, 3) := by decide +kernel
theorem dX7_contact_49 : decode cX7_contact 49 = .ok (.aload 4, 2) := by decide +kernel
theorem dX7_contact_51 : decode cX7_contact 51 = .ok (.invokevirtual 186, 3) := by decide +kernel
theorem dX7_contact_54 : decode cX7_contact 54 = .ok (.ifCond .eq 13, 3) := by decide +kernel
theorem dX7_contact_57 : decode cX7_contact 57 = .ok (.new 60, 3) := by decide +kernel
theorem dX7_contact_60 : decode cX7_contact 60 = .ok (.dup, 1) := by decide +kernel
theorem dX7_contact_61 : decode cX7_contact 61 = .ok (.ldc 189, 2) := by decide +kernel
theorem dX7_contact_63 : decode cX7_contact 63 = .ok (.invokespecial 64, 3) := by decide +kernel
theorem dX7_contact_66 : decode cX7_contact 66 = .ok (.athrow, 1) := by decide +kernel
theorem dX7_contact_67 : decode cX7_contact 67 = .ok (.aload 4, 2) := by decide +kernel
theorem dX7_contact_69 : decode cX7_contact 69 = .ok (.iload_n 2, 1) := by decide +kernel
theorem dX7_contact_70 : decode cX7_contact 70 = .ok (.ifCond .eq 7, 3) := by decide +kernel
theorem dX7_contact_73 : decode cX7_contact 73 = .ok (.iconst 0, 1) := by decide +kernel
theorem dX7_contact_74 : decode cX7_contact 74 = .ok (.goto 4, 3) := by decide +kernel
theorem dX7_contact_77 : decode cX7_contact 77 = .ok (.iconst 1, 1) := by decide +kernel
theorem dX7_contact_78 : decode cX7_contact 78 = .ok (.iload_n 1, 1) := by decide +kernel
theorem dX7_contact_79 : decode cX7_contact 79 = .ok (.iload_n 3, 1) := by decide +kernel
theorem dX7_contact_80 : decode cX7_contact 80 = .ok (.invokevirtual 191, 3) := by decide +kernel
theorem dX7_contact_83 : decode cX7_contact 83 = .ok (.aload 4, 2) := by decide +kernel
theorem dX7_contact_85 : decode cX7_contact 85 = .ok (.getfield 195, 3) := by decide +kernel
theorem dX7_contact_88 : decode cX7_contact 88 = .ok (.ireturn, 1) := by decide +kernel
theorem dX7_right_0 : decode cX7_right 0 = .ok (.iload_n 1, 1) := by decide +kernel
theorem dX7_right_1 : decode cX7_right 1 = .ok (.invokestatic 198, 3) := by decide +kernel
theorem dX7_right_4 : decode cX7_right 4 = .ok (.ifCond .eq 11, 3) := by decide +kernel
theorem dX7_right_7 : decode cX7_right 7 = .ok (.aload_n 0, 1) := by decide +kernel
theorem dX7_right_8 : decode cX7_right 8 = .ok (.iload_n 2, 1) := by decide +kernel
theorem dX7_right_9 : decode cX7_right 9 = .ok (.invokevirtual 181, 3) := by decide +kernel
theorem dX7_right_12 : decode cX7_right 12 = .ok (.ifCond .eq 13, 3) := by decide +kernel
theorem dX7_right_15 : decode cX7_right 15 = .ok (.new 93, 3) := by decide +kernel
theorem dX7_right_18 : decode cX7_right 18 = .ok (.dup, 1) := by decide +kernel
theorem dX7_right_19 : decode cX7_right 19 = .ok (.ldc 201, 2) := by decide +kernel
theorem dX7_right_21 : decode cX7_right 21 = .ok (.invokespecial 97, 3) := by decide +kernel
theorem dX7_right_24 : decode cX7_right 24 = .ok (.athrow, 1) := by decide +kernel
theorem dX7_right_25 : decode cX7_right 25 = .ok (.aload_n 0, 1) := by decide +kernel
theorem dX7_right_26 : decode cX7_right 26 = .ok (.getfield 30, 3) := by decide +kernel
theorem dX7_right_29 : decode cX7_right 29 = .ok (.getfield 101, 3) := by decide +kernel
theorem dX7_right_32 : decode cX7_right 32 = .ok (.astore_n 3, 1) := by decide +kernel
theorem dX7_right_33 : decode cX7_right 33 = .ok (.aload_n 3, 1) := by decide +kernel
theorem dX7_right_34 : decode cX7_right 34 = .ok (.ifnull 10, 3) := by decide +kernel
theorem dX7_right_37 : decode cX7_right 37 = .ok (.aload_n 3, 1) := by decide +kernel
theorem dX7_right_38 : decode cX7_right 38 = .ok (.invokevirtual 186, 3) := by decide +kernel
theorem dX7_right_41 : decode cX7_right 41 = .ok (.ifCond .eq 13, 3) := by decide +kernel
theorem dX7_right_44 : decode cX7_right 44 = .ok (.new 60, 3) := by decide +kernel
theorem dX7_right_47 : decode cX7_right 47 = .ok (.dup, 1) := by decide +kernel
theorem dX7_right_48 : decode cX7_right 48 = .ok (.ldc 189, 2) := by decide +kernel
theorem dX7_right_50 : decode cX7_right 50 = .ok (.invokespecial 64, 3) := by decide +kernel
theorem dX7_right_53 : decode cX7_right 53 = .ok (.athrow, 1) := by decide +kernel
theorem dX7_right_54 : decode cX7_right 54 = .ok (.aload_n 3, 1) := by decide +kernel
theorem dX7_right_55 : decode cX7_right 55 = .ok (.iconst 2, 1) := by decide +kernel
theorem dX7_right_56 : decode cX7_right 56 = .ok (.iload_n 1, 1) := by decide +kernel
theorem dX7_right_57 : decode cX7_right 57 = .ok (.iload_n 2, 1) := by decide +kernel
theorem dX7_right_58 : decode cX7_right 58 = .ok (.invokevirtual 191, 3) := by decide +kernel
theorem dX7_right_61 : decode cX7_right 61 = .ok (.aload_n 3, 1) := by decide +kernel
theorem dX7_right_62 : decode cX7_right 62 = .ok (.getfield 195, 3) := by decide +kernel
theorem dX7_right_65 : decode cX7_right 65 = .ok (.ireturn, 1) := by decide +kernel
theorem dX7_halt_0 : decode cX7_halt 0 = .ok (.aload_n 0, 1) := by decide +kernel
theorem dX7_halt_1 : decode cX7_halt 1 = .ok (.getfield 30, 3) := by decide +kernel
theorem dX7_halt_4 : decode cX7_halt 4 = .ok (.getfield 149, 3) := by decide +kernel
theorem dX7_halt_7 : decode cX7_halt 7 = .ok (.astore_n 1, 1) := by decide +kernel
theorem dX7_halt_8 : decode cX7_halt 8 = .ok (.aload_n 0, 1) := by decide +kernel
theorem dX7_halt_9 : decode cX7_halt 9 = .ok (.getfield 30, 3) := by decide +kernel
theorem dX7_halt_12 : decode cX7_halt 12 = .ok (.getfield 101, 3) := by decide +kernel
theorem dX7_halt_15 : decode cX7_halt 15 = .ok (.astore_n 2, 1) := by decide +kernel
theorem dX7_halt_16 : decode cX7_halt 16 = .ok (.aload_n 1, 1) := by decide +kernel
theorem dX7_halt_17 : decode cX7_halt 17 = .ok (.ifnull 7, 3) := by decide +kernel
theorem dX7_halt_20 : decode cX7_halt 20 = .ok (.aload_n 2, 1) := by decide +kernel
theorem dX7_halt_21 : decode cX7_halt 21 = .ok (.ifnonnull 13, 3) := by decide +kernel
theorem dX7_halt_24 : decode cX7_halt 24 = .ok (.new 60, 3) := by decide +kernel
theorem dX7_halt_27 : decode cX7_halt 27 = .ok (.dup, 1) := by decide +kernel
theorem dX7_halt_28 : decode cX7_halt 28 = .ok (.ldc 203, 2) := by decide +kernel
theorem dX7_halt_30 : decode cX7_halt 30 = .ok (.invokespecial 64, 3) := by decide +kernel
theorem dX7_halt_33 : decode cX7_halt 33 = .ok (.athrow, 1) := by decide +kernel
theorem dX7_halt_34 : decode cX7_halt 34 = .ok (.aload_n 2, 1) := by decide +kernel
theorem dX7_halt_35 : decode cX7_halt 35 = .ok (.aload_n 2, 1) := by decide +kernel
theorem dX7_halt_36 : decode cX7_halt 36 = .ok (.invokevirtual 205, 3) := by decide +kernel
theorem dX7_halt_39 : decode cX7_halt 39 = .ok (.putfield 209, 3) := by decide +kernel
theorem dX7_halt_42 : decode cX7_halt 42 = .ok (.aload_n 1, 1) := by decide +kernel
theorem dX7_halt_43 : decode cX7_halt 43 = .ok (.aload_n 2, 1) := by decide +kernel
theorem dX7_halt_44 : decode cX7_halt 44 = .ok (.invokevirtual 212, 3) := by decide +kernel
theorem dX7_halt_47 : decode cX7_halt 47 = .ok (.aload_n 0, 1) := by decide +kernel
theorem dX7_halt_48 : decode cX7_halt 48 = .ok (.getfield 30, 3) := by decide +kernel
theorem dX7_halt_51 : decode cX7_halt 51 = .ok (.aconst_null, 1) := by decide +kernel
theorem dX7_halt_52 : decode cX7_halt 52 = .ok (.putfield 101, 3) := by decide +kernel
theorem dX7_halt_55 : decode cX7_halt 55 = .ok (.aload_n 0, 1) := by decide +kernel
theorem dX7_halt_56 : decode cX7_halt 56 = .ok (.getfield 30, 3) := by decide +kernel
theorem dX7_halt_59 : decode cX7_halt 59 = .ok (.iconst 1, 1) := by decide +kernel
theorem dX7_halt_60 : decode cX7_halt 60 = .ok (.putfield 216, 3) := by decide +kernel
theorem dX7_halt_63 : decode cX7_halt 63 = .ok (.aload_n 0, 1) := by decide +kernel
theorem dX7_halt_64 : decode cX7_halt 64 = .ok (.getfield 37, 3) := by decide +kernel
theorem dX7_halt_67 : decode cX7_halt 67 = .ok (.aload_n 0, 1) := by decide +kernel
theorem dX7_halt_68 : decode cX7_halt 68 = .ok (.getfield 30, 3) := by decide +kernel
theorem dX7_halt_71 : decode cX7_halt 71 = .ok (.invokevirtual 219, 3) := by decide +kernel
theorem dX7_halt_74 : decode cX7_halt 74 = .ok (.aload_n 1, 1) := by decide +kernel
theorem dX7_halt_75 : decode cX7_halt 75 = .ok (.aload_n 2, 1) := by decide +kernel
theorem dX7_halt_76 : decode cX7_halt 76 = .ok (.invokevirtual 223, 3) := by decide +kernel
theorem dX7_halt_79 : decode cX7_halt 79 = .ok (.ireturn, 1) := by decide +kernel
theorem dX7_appeal_0 : decode cX7_appeal 0 = .ok (.iload_n 1, 1) := by decide +kernel
theorem dX7_appeal_1 : decode cX7_appeal 1 = .ok (.invokestatic 144, 3) := by decide +kernel
theorem dX7_appeal_4 : decode cX7_appeal 4 = .ok (.ifCond .ne 13, 3) := by decide +kernel
theorem dX7_appeal_7 : decode cX7_appeal 7 = .ok (.new 74, 3) := by decide +kernel
theorem dX7_appeal_10 : decode cX7_appeal 10 = .ok (.dup, 1) := by decide +kernel
theorem dX7_appeal_11 : decode cX7_appeal 11 = .ok (.ldc 179, 2) := by decide +kernel
theorem dX7_appeal_13 : decode cX7_appeal 13 = .ok (.invokespecial 78, 3) := by decide +kernel
theorem dX7_appeal_16 : decode cX7_appeal 16 = .ok (.athrow, 1) := by decide +kernel
theorem dX7_appeal_17 : decode cX7_appeal 17 = .ok (.iload_n 2, 1) := by decide +kernel
theorem dX7_appeal_18 : decode cX7_appeal 18 = .ok (.invokestatic 198, 3) := by decide +kernel
theorem dX7_appeal_21 : decode cX7_appeal 21 = .ok (.ifCond .ne 13, 3) := by decide +kernel
theorem dX7_appeal_24 : decode cX7_appeal 24 = .ok (.new 93, 3) := by decide +kernel
theorem dX7_appeal_27 : decode cX7_appeal 27 = .ok (.dup, 1) := by decide +kernel
theorem dX7_appeal_28 : decode cX7_appeal 28 = .ok (.ldc 227, 2) := by decide +kernel
theorem dX7_appeal_30 : decode cX7_appeal 30 = .ok (.invokespecial 97, 3) := by decide +kernel
theorem dX7_appeal_33 : decode cX7_appeal 33 = .ok (.athrow, 1) := by decide +kernel
theorem dX7_appeal_34 : decode cX7_appeal 34 = .ok (.aload_n 0, 1) := by decide +kernel
theorem dX7_appeal_35 : decode cX7_appeal 35 = .ok (.getfield 30, 3) := by decide +kernel
theorem dX7_appeal_38 : decode cX7_appeal 38 = .ok (.getfield 149, 3) := by decide +kernel
theorem dX7_appeal_41 : decode cX7_appeal 41 = .ok (.astore_n 3, 1) := by decide +kernel
theorem dX7_appeal_42 : decode cX7_appeal 42 = .ok (.aload_n 3, 1) := by decide +kernel
theorem dX7_appeal_43 : decode cX7_appeal 43 = .ok (.ifnull 23, 3) := by decide +kernel
theorem dX7_appeal_46 : decode cX7_appeal 46 = .ok (.aload_n 0, 1) := by decide +kernel
theorem dX7_appeal_47 : decode cX7_appeal 47 = .ok (.getfield 30, 3) := by decide +kernel
theorem dX7_appeal_50 : decode cX7_appeal 50 = .ok (.getfield 101, 3) := by decide +kernel
theorem dX7_appeal_53 : decode cX7_appeal 53 = .ok (.ifnonnull 13, 3) := by decide +kernel
theorem dX7_appeal_56 : decode cX7_appeal 56 = .ok (.aload_n 0, 1) := by decide +kernel
theorem dX7_appeal_57 : decode cX7_appeal 57 = .ok (.getfield 30, 3) := by decide +kernel
theorem dX7_appeal_60 : decode cX7_appeal 60 = .ok (.getfield 216, 3) := by decide +kernel
theorem dX7_appeal_63 : decode cX7_appeal 63 = .ok (.ifCond .ne 13, 3) := by decide +kernel
theorem dX7_appeal_66 : decode cX7_appeal 66 = .ok (.new 60, 3) := by decide +kernel
theorem dX7_appeal_69 : decode cX7_appeal 69 = .ok (.dup, 1) := by decide +kernel
theorem dX7_appeal_70 : decode cX7_appeal 70 = .ok (.ldc 229, 2) := by decide +kernel
theorem dX7_appeal_72 : decode cX7_appeal 72 = .ok (.invokespecial 64, 3) := by decide +kernel
theorem dX7_appeal_75 : decode cX7_appeal 75 = .ok (.athrow, 1) := by decide +kernel
theorem dX7_appeal_76 : decode cX7_appeal 76 = .ok (.aload_n 3, 1) := by decide +kernel
theorem dX7_appeal_77 : decode cX7_appeal 77 = .ok (.aload_n 3, 1) := by decide +kernel
theorem dX7_appeal_78 : decode cX7_appeal 78 = .ok (.getfield 141, 3) := by decide +kernel
theorem dX7_appeal_81 : decode cX7_appeal 81 = .ok (.iconst 1, 1) := by decide +kernel
theorem dX7_appeal_82 : decode cX7_appeal 82 = .ok (.isub, 1) := by decide +kernel
theorem dX7_appeal_83 : decode cX7_appeal 83 = .ok (.invokevirtual 231, 3) := by decide +kernel
theorem dX7_appeal_86 : decode cX7_appeal 86 = .ok (.astore 4, 2) := by decide +kernel
theorem dX7_appeal_88 : decode cX7_appeal 88 = .ok (.aload 4, 2) := by decide +kernel
theorem dX7_appeal_90 : decode cX7_appeal 90 = .ok (.ifnull 11, 3) := by decide +kernel
theorem dX7_appeal_93 : decode cX7_appeal 93 = .ok (.aload_n 3, 1) := by decide +kernel
theorem dX7_appeal_94 : decode cX7_appeal 94 = .ok (.iload_n 1, 1) := by decide +kernel
theorem dX7_appeal_95 : decode cX7_appeal 95 = .ok (.invokevirtual 235, 3) := by decide +kernel
theorem dX7_appeal_98 : decode cX7_appeal 98 = .ok (.ifCond .ne 13, 3) := by decide +kernel
theorem dX7_appeal_101 : decode cX7_appeal 101 = .ok (.new 60, 3) := by decide +kernel
theorem dX7_appeal_104 : decode cX7_appeal 104 = .ok (.dup, 1) := by decide +kernel
theorem dX7_appeal_105 : decode cX7_appeal 105 = .ok (.ldc 238, 2) := by decide +kernel
theorem dX7_appeal_107 : decode cX7_appeal 107 = .ok (.invokespecial 64, 3) := by decide +kernel
theorem dX7_appeal_110 : decode cX7_appeal 110 = .ok (.athrow, 1) := by decide +kernel
theorem dX7_appeal_111 : decode cX7_appeal 111 = .ok (.aload_n 3, 1) := by decide +kernel
theorem dX7_appeal_112 : decode cX7_appeal 112 = .ok (.aload 4, 2) := by decide +kernel
theorem dX7_appeal_114 : decode cX7_appeal 114 = .ok (.invokevirtual 223, 3) := by decide +kernel
theorem dX7_appeal_117 : decode cX7_appeal 117 = .ok (.istore 5, 2) := by decide +kernel
theorem dX7_appeal_119 : decode cX7_appeal 119 = .ok (.aload 4, 2) := by decide +kernel
theorem dX7_appeal_121 : decode cX7_appeal 121 = .ok (.iload_n 2, 1) := by decide +kernel
theorem dX7_appeal_122 : decode cX7_appeal 122 = .ok (.invokevirtual 240, 3) := by decide +kernel
theorem dX7_appeal_125 : decode cX7_appeal 125 = .ok (.aload_n 3, 1) := by decide +kernel
theorem dX7_appeal_126 : decode cX7_appeal 126 = .ok (.aload 4, 2) := by decide +kernel
theorem dX7_appeal_128 : decode cX7_appeal 128 = .ok (.invokevirtual 223, 3) := by decide +kernel
theorem dX7_appeal_131 : decode cX7_appeal 131 = .ok (.istore 6, 2) := by decide +kernel
theorem dX7_appeal_133 : decode cX7_appeal 133 = .ok (.iload 6, 2) := by decide +kernel
theorem dX7_appeal_135 : decode cX7_appeal 135 = .ok (.iload 5, 2) := by decide +kernel
theorem dX7_appeal_137 : decode cX7_appeal 137 = .ok (.if_icmp .ne 8, 3) := by decide +kernel
theorem dX7_appeal_140 : decode cX7_appeal 140 = .ok (.aload_n 3, 1) := by decide +kernel
theorem dX7_appeal_141 : decode cX7_appeal 141 = .ok (.iload_n 1, 1) := by decide +kernel
theorem dX7_appeal_142 : decode cX7_appeal 142 = .ok (.invokevirtual 243, 3) := by decide +kernel
theorem dX7_appeal_145 : decode cX7_appeal 145 = .ok (.aload_n 3, 1) := by decide +kernel
theorem dX7_appeal_146 : decode cX7_appeal 146 = .ok (.invokevirtual 246, 3) := by decide +kernel
theorem dX7_appeal_149 : decode cX7_appeal 149 = .ok (.aload_n 0, 1) := by decide +kernel
theorem dX7_appeal_150 : decode cX7_appeal 150 = .ok (.getfield 37, 3) := by decide +kernel
theorem dX7_appeal_153 : decode cX7_appeal 153 = .ok (.aload_n 0, 1) := by decide +kernel
theorem dX7_appeal_154 : decode cX7_appeal 154 = .ok (.getfield 30, 3) := by decide +kernel
theorem dX7_appeal_157 : decode cX7_appeal 157 = .ok (.invokevirtual 219, 3) := by decide +kernel
theorem dX7_appeal_160 : decode cX7_appeal 160 = .ok (.iload 6, 2) := by decide +kernel
theorem dX7_appeal_162 : decode cX7_appeal 162 = .ok (.ireturn, 1) := by decide +kernel
theorem dX7_piste_0 : decode cX7_piste 0 = .ok (.aload_n 0, 1) := by decide +kernel
theorem dX7_piste_1 : decode cX7_piste 1 = .ok (.getfield 30, 3) := by decide +kernel
theorem dX7_piste_4 : decode cX7_piste 4 = .ok (.getfield 249, 3) := by decide +kernel
theorem dX7_piste_7 : decode cX7_piste 7 = .ok (.ireturn, 1) := by decide +kernel
theorem dX7_isFencing_0 : decode cX7_isFencing 0 = .ok (.aload_n 0, 1) := by decide +kernel
theorem dX7_isFencing_1 : decode cX7_isFencing 1 = .ok (.getfield 30, 3) := by decide +kernel
theorem dX7_isFencing_4 : decode cX7_isFencing 4 = .ok (.getfield 101, 3) := by decide +kernel
theorem dX7_isFencing_7 : decode cX7_isFencing 7 = .ok (.ifnull 7, 3) := by decide +kernel
theorem dX7_isFencing_10 : decode cX7_isFencing 10 = .ok (.iconst 1, 1) := by decide +kernel
theorem dX7_isFencing_11 : decode cX7_isFencing 11 = .ok (.goto 4, 3) := by decide +kernel
theorem dX7_isFencing_14 : decode cX7_isFencing 14 = .ok (.iconst 0, 1) := by decide +kernel
theorem dX7_isFencing_15 : decode cX7_isFencing 15 = .ok (.ireturn, 1) := by decide +kernel
theorem dX7_weaponOf_0 : decode cX7_weaponOf 0 = .ok (.iload_n 1, 1) := by decide +kernel
theorem dX7_weaponOf_1 : decode cX7_weaponOf 1 = .ok (.invokestatic 144, 3) := by decide +kernel
theorem dX7_weaponOf_4 : decode cX7_weaponOf 4 = .ok (.ifCond .ne 13, 3) := by decide +kernel
theorem dX7_weaponOf_7 : decode cX7_weaponOf 7 = .ok (.new 74, 3) := by decide +kernel
theorem dX7_weaponOf_10 : decode cX7_weaponOf 10 = .ok (.dup, 1) := by decide +kernel
theorem dX7_weaponOf_11 : decode cX7_weaponOf 11 = .ok (.ldc 179, 2) := by decide +kernel
theorem dX7_weaponOf_13 : decode cX7_weaponOf 13 = .ok (.invokespecial 78, 3) := by decide +kernel
theorem dX7_weaponOf_16 : decode cX7_weaponOf 16 = .ok (.athrow, 1) := by decide +kernel
theorem dX7_weaponOf_17 : decode cX7_weaponOf 17 = .ok (.aload_n 0, 1) := by decide +kernel
theorem dX7_weaponOf_18 : decode cX7_weaponOf 18 = .ok (.getfield 30, 3) := by decide +kernel
theorem dX7_weaponOf_21 : decode cX7_weaponOf 21 = .ok (.iload_n 1, 1) := by decide +kernel
theorem dX7_weaponOf_22 : decode cX7_weaponOf 22 = .ok (.invokevirtual 160, 3) := by decide +kernel
theorem dX7_weaponOf_25 : decode cX7_weaponOf 25 = .ok (.ireturn, 1) := by decide +kernel
theorem dX7_fencerOf_0 : decode cX7_fencerOf 0 = .ok (.aload_n 0, 1) := by decide +kernel
theorem dX7_fencerOf_1 : decode cX7_fencerOf 1 = .ok (.iload_n 1, 1) := by decide +kernel
theorem dX7_fencerOf_2 : decode cX7_fencerOf 2 = .ok (.invokevirtual 114, 3) := by decide +kernel
theorem dX7_fencerOf_5 : decode cX7_fencerOf 5 = .ok (.astore_n 3, 1) := by decide +kernel
theorem dX7_fencerOf_6 : decode cX7_fencerOf 6 = .ok (.aload_n 3, 1) := by decide +kernel
theorem dX7_fencerOf_7 : decode cX7_fencerOf 7 = .ok (.ifnull 10, 3) := by decide +kernel
theorem dX7_fencerOf_10 : decode cX7_fencerOf 10 = .ok (.iload_n 2, 1) := by decide +kernel
theorem dX7_fencerOf_11 : decode cX7_fencerOf 11 = .ok (.invokestatic 144, 3) := by decide +kernel
theorem dX7_fencerOf_14 : decode cX7_fencerOf 14 = .ok (.ifCond .ne 13, 3) := by decide +kernel
theorem dX7_fencerOf_17 : decode cX7_fencerOf 17 = .ok (.new 74, 3) := by decide +kernel
theorem dX7_fencerOf_20 : decode cX7_fencerOf 20 = .ok (.dup, 1) := by decide +kernel
theorem dX7_fencerOf_21 : decode cX7_fencerOf 21 = .ok (.ldc 252, 2) := by decide +kernel
theorem dX7_fencerOf_23 : decode cX7_fencerOf 23 = .ok (.invokespecial 78, 3) := by decide +kernel
theorem dX7_fencerOf_26 : decode cX7_fencerOf 26 = .ok (.athrow, 1) := by decide +kernel
theorem dX7_fencerOf_27 : decode cX7_fencerOf 27 = .ok (.aload_n 3, 1) := by decide +kernel
theorem dX7_fencerOf_28 : decode cX7_fencerOf 28 = .ok (.iload_n 2, 1) := by decide +kernel
theorem dX7_fencerOf_29 : decode cX7_fencerOf 29 = .ok (.invokevirtual 155, 3) := by decide +kernel
theorem dX7_fencerOf_32 : decode cX7_fencerOf 32 = .ok (.ireturn, 1) := by decide +kernel
theorem dX7_score_0 : decode cX7_score 0 = .ok (.aload_n 0, 1) := by decide +kernel
theorem dX7_score_1 : decode cX7_score 1 = .ok (.iload_n 1, 1) := by decide +kernel
theorem dX7_score_2 : decode cX7_score 2 = .ok (.invokevirtual 114, 3) := by decide +kernel
theorem dX7_score_5 : decode cX7_score 5 = .ok (.astore_n 3, 1) := by decide +kernel
theorem dX7_score_6 : decode cX7_score 6 = .ok (.aload_n 3, 1) := by decide +kernel
theorem dX7_score_7 : decode cX7_score 7 = .ok (.ifnull 10, 3) := by decide +kernel
theorem dX7_score_10 : decode cX7_score 10 = .ok (.iload_n 2, 1) := by decide +kernel
theorem dX7_score_11 : decode cX7_score 11 = .ok (.invokestatic 144, 3) := by decide +kernel
theorem dX7_score_14 : decode cX7_score 14 = .ok (.ifCond .ne 13, 3) := by decide +kernel
theorem dX7_score_17 : decode cX7_score 17 = .ok (.new 74, 3) := by decide +kernel
theorem dX7_score_20 : decode cX7_score 20 = .ok (.dup, 1) := by decide +kernel
theorem dX7_score_21 : decode cX7_score 21 = .ok (.ldc 252, 2) := by decide +kernel
theorem dX7_score_23 : decode cX7_score 23 = .ok (.invokespecial 78, 3) := by decide +kernel
theorem dX7_score_26 : decode cX7_score 26 = .ok (.athrow, 1) := by decide +kernel
theorem dX7_score_27 : decode cX7_score 27 = .ok (.aload_n 3, 1) := by decide +kernel
theorem dX7_score_28 : decode cX7_score 28 = .ok (.getfield 254, 3) := by decide +kernel
theorem dX7_score_31 : decode cX7_score 31 = .ok (.iload_n 2, 1) := by decide +kernel
theorem dX7_score_32 : decode cX7_score 32 = .ok (.invokevirtual 257, 3) := by decide +kernel
theorem dX7_score_35 : decode cX7_score 35 = .ok (.ireturn, 1) := by decide +kernel
theorem dX7_scoreAnew_0 : decode cX7_scoreAnew 0 = .ok (.aload_n 0, 1) := by decide +kernel
theorem dX7_scoreAnew_1 : decode cX7_scoreAnew 1 = .ok (.iload_n 1, 1) := by decide +kernel
theorem dX7_scoreAnew_2 : decode cX7_scoreAnew 2 = .ok (.invokevirtual 114, 3) := by decide +kernel
theorem dX7_scoreAnew_5 : decode cX7_scoreAnew 5 = .ok (.astore_n 3, 1) := by decide +kernel
theorem dX7_scoreAnew_6 : decode cX7_scoreAnew 6 = .ok (.aload_n 3, 1) := by decide +kernel
theorem dX7_scoreAnew_7 : decode cX7_scoreAnew 7 = .ok (.ifnull 10, 3) := by decide +kernel
theorem dX7_scoreAnew_10 : decode cX7_scoreAnew 10 = .ok (.iload_n 2, 1) := by decide +kernel
theorem dX7_scoreAnew_11 : decode cX7_scoreAnew 11 = .ok (.invokestatic 144, 3) := by decide +kernel
theorem dX7_scoreAnew_14 : decode cX7_scoreAnew 14 = .ok (.ifCond .ne 13, 3) := by decide +kernel
theorem dX7_scoreAnew_17 : decode cX7_scoreAnew 17 = .ok (.new 74, 3) := by decide +kernel
theorem dX7_scoreAnew_20 : decode cX7_scoreAnew 20 = .ok (.dup, 1) := by decide +kernel
theorem dX7_scoreAnew_21 : decode cX7_scoreAnew 21 = .ok (.ldc 252, 2) := by decide +kernel
theorem dX7_scoreAnew_23 : decode cX7_scoreAnew 23 = .ok (.invokespecial 78, 3) := by decide +kernel
theorem dX7_scoreAnew_26 : decode cX7_scoreAnew 26 = .ok (.athrow, 1) := by decide +kernel
theorem dX7_scoreAnew_27 : decode cX7_scoreAnew 27 = .ok (.aload_n 3, 1) := by decide +kernel
theorem dX7_scoreAnew_28 : decode cX7_scoreAnew 28 = .ok (.aload_n 0, 1) := by decide +kernel
theorem dX7_scoreAnew_29 : decode cX7_scoreAnew 29 = .ok (.getfield 44, 3) := by decide +kernel
theorem dX7_scoreAnew_32 : decode cX7_scoreAnew 32 = .ok (.invokevirtual 260, 3) := by decide +kernel
theorem dX7_scoreAnew_35 : decode cX7_scoreAnew 35 = .ok (.aload_n 0, 1) := by decide +kernel
theorem dX7_scoreAnew_36 : decode cX7_scoreAnew 36 = .ok (.getfield 44, 3) := by decide +kernel
theorem dX7_scoreAnew_39 : decode cX7_scoreAnew 39 = .ok (.iload_n 2, 1) := by decide +kernel
theorem dX7_scoreAnew_40 : decode cX7_scoreAnew 40 = .ok (.invokevirtual 257, 3) := by decide +kernel
theorem dX7_scoreAnew_43 : decode cX7_scoreAnew 43 = .ok (.ireturn, 1) := by decide +kernel
theorem dX7_winner_0 : decode cX7_winner 0 = .ok (.aload_n 0, 1) := by decide +kernel
theorem dX7_winner_1 : decode cX7_winner 1 = .ok (.iload_n 1, 1) := by decide +kernel
theorem dX7_winner_2 : decode cX7_winner 2 = .ok (.invokevirtual 114, 3) := by decide +kernel
theorem dX7_winner_5 : decode cX7_winner 5 = .ok (.astore_n 2, 1) := by decide +kernel
theorem dX7_winner_6 : decode cX7_winner 6 = .ok (.aload_n 2, 1) := by decide +kernel
theorem dX7_winner_7 : decode cX7_winner 7 = .ok (.ifnonnull 14, 3) := by decide +kernel
theorem dX7_winner_10 : decode cX7_winner 10 = .ok (.new 74, 3) := by decide +kernel
theorem dX7_winner_13 : decode cX7_winner 13 = .ok (.dup, 1) := by decide +kernel
theorem dX7_winner_14 : decode cX7_winner 14 = .ok (.ldc_w 264, 3) := by decide +kernel
theorem dX7_winner_17 : decode cX7_winner 17 = .ok (.invokespecial 78, 3) := by decide +kernel
theorem dX7_winner_20 : decode cX7_winner 20 = .ok (.athrow, 1) := by decide +kernel
theorem dX7_winner_21 : decode cX7_winner 21 = .ok (.aload_n 2, 1) := by decide +kernel
theorem dX7_winner_22 : decode cX7_winner 22 = .ok (.getfield 266, 3) := by decide +kernel
theorem dX7_winner_25 : decode cX7_winner 25 = .ok (.ifCond .eq 8, 3) := by decide +kernel
theorem dX7_winner_28 : decode cX7_winner 28 = .ok (.aload_n 2, 1) := by decide +kernel
theorem dX7_winner_29 : decode cX7_winner 29 = .ok (.invokevirtual 269, 3) := by decide +kernel
theorem dX7_winner_32 : decode cX7_winner 32 = .ok (.ireturn, 1) := by decide +kernel
theorem dX7_winner_33 : decode cX7_winner 33 = .ok (.aload_n 0, 1) := by decide +kernel
theorem dX7_winner_34 : decode cX7_winner 34 = .ok (.getfield 37, 3) := by decide +kernel
theorem dX7_winner_37 : decode cX7_winner 37 = .ok (.iload_n 1, 1) := by decide +kernel
theorem dX7_winner_38 : decode cX7_winner 38 = .ok (.bipush 100, 2) := by decide +kernel
theorem dX7_winner_40 : decode cX7_winner 40 = .ok (.isub, 1) := by decide +kernel
theorem dX7_winner_41 : decode cX7_winner 41 = .ok (.invokevirtual 272, 3) := by decide +kernel
theorem dX7_winner_44 : decode cX7_winner 44 = .ok (.ireturn, 1) := by decide +kernel
theorem dX7_phrases_0 : decode cX7_phrases 0 = .ok (.aload_n 0, 1) := by decide +kernel
theorem dX7_phrases_1 : decode cX7_phrases 1 = .ok (.iload_n 1, 1) := by decide +kernel
theorem dX7_phrases_2 : decode cX7_phrases 2 = .ok (.invokevirtual 114, 3) := by decide +kernel
theorem dX7_phrases_5 : decode cX7_phrases 5 = .ok (.astore_n 2, 1) := by decide +kernel
theorem dX7_phrases_6 : decode cX7_phrases 6 = .ok (.aload_n 2, 1) := by decide +kernel
theorem dX7_phrases_7 : decode cX7_phrases 7 = .ok (.ifnonnull 14, 3) := by decide +kernel
theorem dX7_phrases_10 : decode cX7_phrases 10 = .ok (.new 74, 3) := by decide +kernel
theorem dX7_phrases_13 : decode cX7_phrases 13 = .ok (.dup, 1) := by decide +kernel
theorem dX7_phrases_14 : decode cX7_phrases 14 = .ok (.ldc_w 264, 3) := by decide +kernel
theorem dX7_phrases_17 : decode cX7_phrases 17 = .ok (.invokespecial 78, 3) := by decide +kernel
theorem dX7_phrases_20 : decode cX7_phrases 20 = .ok (.athrow, 1) := by decide +kernel
theorem dX7_phrases_21 : decode cX7_phrases 21 = .ok (.aload_n 2, 1) := by decide +kernel
theorem dX7_phrases_22 : decode cX7_phrases 22 = .ok (.getfield 141, 3) := by decide +kernel
theorem dX7_phrases_25 : decode cX7_phrases 25 = .ok (.ireturn, 1) := by decide +kernel
theorem dX7_touches_0 : decode cX7_touches 0 = .ok (.aload_n 0, 1) := by decide +kernel
theorem dX7_touches_1 : decode cX7_touches 1 = .ok (.iload_n 1, 1) := by decide +kernel
theorem dX7_touches_2 : decode cX7_touches 2 = .ok (.invokevirtual 114, 3) := by decide +kernel
theorem dX7_touches_5 : decode cX7_touches 5 = .ok (.astore_n 3, 1) := by decide +kernel
theorem dX7_touches_6 : decode cX7_touches 6 = .ok (.aload_n 3, 1) := by decide +kernel
theorem dX7_touches_7 : decode cX7_touches 7 = .ok (.ifnonnull 14, 3) := by decide +kernel
theorem dX7_touches_10 : decode cX7_touches 10 = .ok (.new 74, 3) := by decide +kernel
theorem dX7_touches_13 : decode cX7_touches 13 = .ok (.dup, 1) := by decide +kernel
theorem dX7_touches_14 : decode cX7_touches 14 = .ok (.ldc_w 264, 3) := by decide +kernel
theorem dX7_touches_17 : decode cX7_touches 17 = .ok (.invokespecial 78, 3) := by decide +kernel
theorem dX7_touches_20 : decode cX7_touches 20 = .ok (.athrow, 1) := by decide +kernel
theorem dX7_touches_21 : decode cX7_touches 21 = .ok (.aload_n 3, 1) := by decide +kernel
theorem dX7_touches_22 : decode cX7_touches 22 = .ok (.iload_n 2, 1) := by decide +kernel
theorem dX7_touches_23 : decode cX7_touches 23 = .ok (.invokevirtual 231, 3) := by decide +kernel
theorem dX7_touches_26 : decode cX7_touches 26 = .ok (.astore 4, 2) := by decide +kernel
theorem dX7_touches_28 : decode cX7_touches 28 = .ok (.aload 4, 2) := by decide +kernel
theorem dX7_touches_30 : decode cX7_touches 30 = .ok (.ifnonnull 14, 3) := by decide +kernel
theorem dX7_touches_33 : decode cX7_touches 33 = .ok (.new 74, 3) := by decide +kernel
theorem dX7_touches_36 : decode cX7_touches 36 = .ok (.dup, 1) := by decide +kernel
theorem dX7_touches_37 : decode cX7_touches 37 = .ok (.ldc_w 275, 3) := by decide +kernel
theorem dX7_touches_40 : decode cX7_touches 40 = .ok (.invokespecial 78, 3) := by decide +kernel
theorem dX7_touches_43 : decode cX7_touches 43 = .ok (.athrow, 1) := by decide +kernel
theorem dX7_touches_44 : decode cX7_touches 44 = .ok (.aload_n 3, 1) := by decide +kernel
theorem dX7_touches_45 : decode cX7_touches 45 = .ok (.aload 4, 2) := by decide +kernel
theorem dX7_touches_47 : decode cX7_touches 47 = .ok (.invokevirtual 223, 3) := by decide +kernel
theorem dX7_touches_50 : decode cX7_touches 50 = .ok (.ireturn, 1) := by decide +kernel
theorem dX7_appeals_0 : decode cX7_appeals 0 = .ok (.aload_n 0, 1) := by decide +kernel
theorem dX7_appeals_1 : decode cX7_appeals 1 = .ok (.iload_n 1, 1) := by decide +kernel
theorem dX7_appeals_2 : decode cX7_appeals 2 = .ok (.invokevirtual 114, 3) := by decide +kernel
theorem dX7_appeals_5 : decode cX7_appeals 5 = .ok (.astore_n 3, 1) := by decide +kernel
theorem dX7_appeals_6 : decode cX7_appeals 6 = .ok (.aload_n 3, 1) := by decide +kernel
theorem dX7_appeals_7 : decode cX7_appeals 7 = .ok (.ifnull 10, 3) := by decide +kernel
theorem dX7_appeals_10 : decode cX7_appeals 10 = .ok (.iload_n 2, 1) := by decide +kernel
theorem dX7_appeals_11 : decode cX7_appeals 11 = .ok (.invokestatic 144, 3) := by decide +kernel
theorem dX7_appeals_14 : decode cX7_appeals 14 = .ok (.ifCond .ne 13, 3) := by decide +kernel
theorem dX7_appeals_17 : decode cX7_appeals 17 = .ok (.new 74, 3) := by decide +kernel
theorem dX7_appeals_20 : decode cX7_appeals 20 = .ok (.dup, 1) := by decide +kernel
theorem dX7_appeals_21 : decode cX7_appeals 21 = .ok (.ldc 252, 2) := by decide +kernel
theorem dX7_appeals_23 : decode cX7_appeals 23 = .ok (.invokespecial 78, 3) := by decide +kernel
theorem dX7_appeals_26 : decode cX7_appeals 26 = .ok (.athrow, 1) := by decide +kernel
theorem dX7_appeals_27 : decode cX7_appeals 27 = .ok (.aload_n 3, 1) := by decide +kernel
theorem dX7_appeals_28 : decode cX7_appeals 28 = .ok (.iload_n 2, 1) := by decide +kernel
theorem dX7_appeals_29 : decode cX7_appeals 29 = .ok (.invokevirtual 235, 3) := by decide +kernel
theorem dX7_appeals_32 : decode cX7_appeals 32 = .ok (.ireturn, 1) := by decide +kernel
theorem dX7_drawPools_0 : decode cX7_drawPools 0 = .ok (.iload_n 1, 1) := by decide +kernel
theorem dX7_drawPools_1 : decode cX7_drawPools 1 = .ok (.iconst 1, 1) := by decide +kernel
theorem dX7_drawPools_2 : decode cX7_drawPools 2 = .ok (.if_icmp .lt 8, 3) := by decide +kernel
theorem dX7_drawPools_5 : decode cX7_drawPools 5 = .ok (.iload_n 1, 1) := by decide +kernel
theorem dX7_drawPools_6 : decode cX7_drawPools 6 = .ok (.iconst 4, 1) := by decide +kernel
theorem dX7_drawPools_7 : decode cX7_drawPools 7 = .ok (.if_icmp .le 14, 3) := by decide +kernel
theorem dX7_drawPools_10 : decode cX7_drawPools 10 = .ok (.new 93, 3) := by decide +kernel
theorem dX7_drawPools_13 : decode cX7_drawPools 13 = .ok (.dup, 1) := by decide +kernel
theorem dX7_drawPools_14 : decode cX7_drawPools 14 = .ok (.ldc_w 277, 3) := by decide +kernel
theorem dX7_drawPools_17 : decode cX7_drawPools 17 = .ok (.invokespecial 97, 3) := by decide +kernel
theorem dX7_drawPools_20 : decode cX7_drawPools 20 = .ok (.athrow, 1) := by decide +kernel
theorem dX7_drawPools_21 : decode cX7_drawPools 21 = .ok (.aload_n 0, 1) := by decide +kernel
theorem dX7_drawPools_22 : decode cX7_drawPools 22 = .ok (.invokevirtual 56, 3) := by decide +kernel
theorem dX7_drawPools_25 : decode cX7_drawPools 25 = .ok (.ifCond .ne 13, 3) := by decide +kernel
theorem dX7_drawPools_28 : decode cX7_drawPools 28 = .ok (.aload_n 0, 1) := by decide +kernel
theorem dX7_drawPools_29 : decode cX7_drawPools 29 = .ok (.getfield 52, 3) := by decide +kernel
theorem dX7_drawPools_32 : decode cX7_drawPools 32 = .ok (.iconst 2, 1) := by decide +kernel
theorem dX7_drawPools_33 : decode cX7_drawPools 33 = .ok (.iload_n 1, 1) := by decide +kernel
theorem dX7_drawPools_34 : decode cX7_drawPools 34 = .ok (.imul, 1) := by decide +kernel
theorem dX7_drawPools_35 : decode cX7_drawPools 35 = .ok (.if_icmp .ge 14, 3) := by decide +kernel
theorem dX7_drawPools_38 : decode cX7_drawPools 38 = .ok (.new 60, 3) := by decide +kernel
theorem dX7_drawPools_41 : decode cX7_drawPools 41 = .ok (.dup, 1) := by decide +kernel
theorem dX7_drawPools_42 : decode cX7_drawPools 42 = .ok (.ldc_w 279, 3) := by decide +kernel
theorem dX7_drawPools_45 : decode cX7_drawPools 45 = .ok (.invokespecial 64, 3) := by decide +kernel
theorem dX7_drawPools_48 : decode cX7_drawPools 48 = .ok (.athrow, 1) := by decide +kernel
theorem dX7_drawPools_49 : decode cX7_drawPools 49 = .ok (.iconst 0, 1) := by decide +kernel
theorem dX7_drawPools_50 : decode cX7_drawPools 50 = .ok (.istore_n 2, 1) := by decide +kernel
theorem dX7_drawPools_51 : decode cX7_drawPools 51 = .ok (.iload_n 2, 1) := by decide +kernel
theorem dX7_drawPools_52 : decode cX7_drawPools 52 = .ok (.iload_n 1, 1) := by decide +kernel
theorem dX7_drawPools_53 : decode cX7_drawPools 53 = .ok (.if_icmp .ge 15, 3) := by decide +kernel
theorem dX7_drawPools_56 : decode cX7_drawPools 56 = .ok (.aload_n 0, 1) := by decide +kernel
theorem dX7_drawPools_57 : decode cX7_drawPools 57 = .ok (.iload_n 2, 1) := by decide +kernel
theorem dX7_drawPools_58 : decode cX7_drawPools 58 = .ok (.iload_n 1, 1) := by decide +kernel
theorem dX7_drawPools_59 : decode cX7_drawPools 59 = .ok (.invokevirtual 281, 3) := by decide +kernel
theorem dX7_drawPools_62 : decode cX7_drawPools 62 = .ok (.iinc 2 1, 3) := by decide +kernel
theorem dX7_drawPools_65 : decode cX7_drawPools 65 = .ok (.goto (-14), 3) := by decide +kernel
theorem dX7_drawPools_68 : decode cX7_drawPools 68 = .ok (.aload_n 0, 1) := by decide +kernel
theorem dX7_drawPools_69 : decode cX7_drawPools 69 = .ok (.getfield 284, 3) := by decide +kernel
theorem dX7_drawPools_72 : decode cX7_drawPools 72 = .ok (.ireturn, 1) := by decide +kernel
theorem dX7_poolBouts_0 : decode cX7_poolBouts 0 = .ok (.aload_n 0, 1) := by decide +kernel
theorem dX7_poolBouts_1 : decode cX7_poolBouts 1 = .ok (.getfield 284, 3) := by decide +kernel
theorem dX7_poolBouts_4 : decode cX7_poolBouts 4 = .ok (.ireturn, 1) := by decide +kernel
theorem dX7_won_0 : decode cX7_won 0 = .ok (.aload_n 0, 1) := by decide +kernel
theorem dX7_won_1 : decode cX7_won 1 = .ok (.iload_n 1, 1) := by decide +kernel
theorem dX7_won_2 : decode cX7_won 2 = .ok (.invokevirtual 70, 3) := by decide +kernel
theorem dX7_won_5 : decode cX7_won 5 = .ok (.astore_n 2, 1) := by decide +kernel
theorem dX7_won_6 : decode cX7_won 6 = .ok (.aload_n 2, 1) := by decide +kernel
theorem dX7_won_7 : decode cX7_won 7 = .ok (.ifnonnull 13, 3) := by decide +kernel
theorem dX7_won_10 : decode cX7_won 10 = .ok (.new 74, 3) := by decide +kernel
theorem dX7_won_13 : decode cX7_won 13 = .ok (.dup, 1) := by decide +kernel
theorem dX7_won_14 : decode cX7_won 14 = .ok (.ldc 76, 2) := by decide +kernel
theorem dX7_won_16 : decode cX7_won 16 = .ok (.invokespecial 78, 3) := by decide +kernel
theorem dX7_won_19 : decode cX7_won 19 = .ok (.athrow, 1) := by decide +kernel
theorem dX7_won_20 : decode cX7_won 20 = .ok (.aload_n 0, 1) := by decide +kernel
theorem dX7_won_21 : decode cX7_won 21 = .ok (.invokevirtual 287, 3) := by decide +kernel
theorem dX7_won_24 : decode cX7_won 24 = .ok (.aload_n 2, 1) := by decide +kernel
theorem dX7_won_25 : decode cX7_won 25 = .ok (.getfield 290, 3) := by decide +kernel
theorem dX7_won_28 : decode cX7_won 28 = .ok (.ireturn, 1) := by decide +kernel
theorem dX7_index_0 : decode cX7_index 0 = .ok (.aload_n 0, 1) := by decide +kernel
theorem dX7_index_1 : decode cX7_index 1 = .ok (.iload_n 1, 1) := by decide +kernel
theorem dX7_index_2 : decode cX7_index 2 = .ok (.invokevirtual 70, 3) := by decide +kernel
theorem dX7_index_5 : decode cX7_index 5 = .ok (.astore_n 2, 1) := by decide +kernel
theorem dX7_index_6 : decode cX7_index 6 = .ok (.aload_n 2, 1) := by decide +kernel
theorem dX7_index_7 : decode cX7_index 7 = .ok (.ifnonnull 13, 3) := by decide +kernel
theorem dX7_index_10 : decode cX7_index 10 = .ok (.new 74, 3) := by decide +kernel
theorem dX7_index_13 : decode cX7_index 13 = .ok (.dup, 1) := by decide +kernel
theorem dX7_index_14 : decode cX7_index 14 = .ok (.ldc 76, 2) := by decide +kernel
theorem dX7_index_16 : decode cX7_index 16 = .ok (.invokespecial 78, 3) := by decide +kernel
theorem dX7_index_19 : decode cX7_index 19 = .ok (.athrow, 1) := by decide +kernel
theorem dX7_index_20 : decode cX7_index 20 = .ok (.aload_n 0, 1) := by decide +kernel
theorem dX7_index_21 : decode cX7_index 21 = .ok (.invokevirtual 287, 3) := by decide +kernel
theorem dX7_index_24 : decode cX7_index 24 = .ok (.aload_n 2, 1) := by decide +kernel
theorem dX7_index_25 : decode cX7_index 25 = .ok (.invokevirtual 293, 3) := by decide +kernel
theorem dX7_index_28 : decode cX7_index 28 = .ok (.ireturn, 1) := by decide +kernel
theorem dX7_rankedAt_0 : decode cX7_rankedAt 0 = .ok (.iload_n 1, 1) := by decide +kernel
theorem dX7_rankedAt_1 : decode cX7_rankedAt 1 = .ok (.ifCond .lt 11, 3) := by decide +kernel
theorem dX7_rankedAt_4 : decode cX7_rankedAt 4 = .ok (.iload_n 1, 1) := by decide +kernel
theorem dX7_rankedAt_5 : decode cX7_rankedAt 5 = .ok (.aload_n 0, 1) := by decide +kernel
theorem dX7_rankedAt_6 : decode cX7_rankedAt 6 = .ok (.getfield 52, 3) := by decide +kernel
theorem dX7_rankedAt_9 : decode cX7_rankedAt 9 = .ok (.if_icmp .lt 14, 3) := by decide +kernel
theorem dX7_rankedAt_12 : decode cX7_rankedAt 12 = .ok (.new 74, 3) := by decide +kernel
theorem dX7_rankedAt_15 : decode cX7_rankedAt 15 = .ok (.dup, 1) := by decide +kernel
theorem dX7_rankedAt_16 : decode cX7_rankedAt 16 = .ok (.ldc_w 296, 3) := by decide +kernel
theorem dX7_rankedAt_19 : decode cX7_rankedAt 19 = .ok (.invokespecial 78, 3) := by decide +kernel
theorem dX7_rankedAt_22 : decode cX7_rankedAt 22 = .ok (.athrow, 1) := by decide +kernel
theorem dX7_rankedAt_23 : decode cX7_rankedAt 23 = .ok (.aload_n 0, 1) := by decide +kernel
theorem dX7_rankedAt_24 : decode cX7_rankedAt 24 = .ok (.invokevirtual 287, 3) := by decide +kernel
theorem dX7_rankedAt_27 : decode cX7_rankedAt 27 = .ok (.aload_n 0, 1) := by decide +kernel
theorem dX7_rankedAt_28 : decode cX7_rankedAt 28 = .ok (.iload_n 1, 1) := by decide +kernel
theorem dX7_rankedAt_29 : decode cX7_rankedAt 29 = .ok (.invokevirtual 298, 3) := by decide +kernel
theorem dX7_rankedAt_32 : decode cX7_rankedAt 32 = .ok (.ireturn, 1) := by decide +kernel
theorem dX7_drawTableau_0 : decode cX7_drawTableau 0 = .ok (.aload_n 0, 1) := by decide +kernel
theorem dX7_drawTableau_1 : decode cX7_drawTableau 1 = .ok (.invokevirtual 56, 3) := by decide +kernel
theorem dX7_drawTableau_4 : decode cX7_drawTableau 4 = .ok (.ifCond .eq 10, 3) := by decide +kernel
theorem dX7_drawTableau_7 : decode cX7_drawTableau 7 = .ok (.aload_n 0, 1) := by decide +kernel
theorem dX7_drawTableau_8 : decode cX7_drawTableau 8 = .ok (.invokevirtual 301, 3) := by decide +kernel
theorem dX7_drawTableau_11 : decode cX7_drawTableau 11 = .ok (.ifCond .eq 14, 3) := by decide +kernel
theorem dX7_drawTableau_14 : decode cX7_drawTableau 14 = .ok (.new 60, 3) := by decide +kernel
theorem dX7_drawTableau_17 : decode cX7_drawTableau 17 = .ok (.dup, 1) := by decide +kernel
theorem dX7_drawTableau_18 : decode cX7_drawTableau 18 = .ok (.ldc_w 304, 3) := by decide +kernel
theorem dX7_drawTableau_21 : decode cX7_drawTableau 21 = .ok (.invokespecial 64, 3) := by decide +kernel
theorem dX7_drawTableau_24 : decode cX7_drawTableau 24 = .ok (.athrow, 1) := by decide +kernel
theorem dX7_drawTableau_25 : decode cX7_drawTableau 25 = .ok (.aload_n 0, 1) := by decide +kernel
theorem dX7_drawTableau_26 : decode cX7_drawTableau 26 = .ok (.getfield 37, 3) := by decide +kernel
theorem dX7_drawTableau_29 : decode cX7_drawTableau 29 = .ok (.invokevirtual 306, 3) := by decide +kernel
theorem dX7_drawTableau_32 : decode cX7_drawTableau 32 = .ok (.ifCond .ne 13, 3) := by decide +kernel
theorem dX7_drawTableau_35 : decode cX7_drawTableau 35 = .ok (.aload_n 0, 1) := by decide +kernel
theorem dX7_drawTableau_36 : decode cX7_drawTableau 36 = .ok (.getfield 30, 3) := by decide +kernel
theorem dX7_drawTableau_39 : decode cX7_drawTableau 39 = .ok (.getfield 101, 3) := by decide +kernel
theorem dX7_drawTableau_42 : decode cX7_drawTableau 42 = .ok (.ifnull 14, 3) := by decide +kernel
theorem dX7_drawTableau_45 : decode cX7_drawTableau 45 = .ok (.new 60, 3) := by decide +kernel
theorem dX7_drawTableau_48 : decode cX7_drawTableau 48 = .ok (.dup, 1) := by decide +kernel
theorem dX7_drawTableau_49 : decode cX7_drawTableau 49 = .ok (.ldc_w 309, 3) := by decide +kernel
theorem dX7_drawTableau_52 : decode cX7_drawTableau 52 = .ok (.invokespecial 64, 3) := by decide +kernel
theorem dX7_drawTableau_55 : decode cX7_drawTableau 55 = .ok (.athrow, 1) := by decide +kernel
theorem dX7_drawTableau_56 : decode cX7_drawTableau 56 = .ok (.aload_n 0, 1) := by decide +kernel
theorem dX7_drawTableau_57 : decode cX7_drawTableau 57 = .ok (.getfield 30, 3) := by decide +kernel
theorem dX7_drawTableau_60 : decode cX7_drawTableau 60 = .ok (.invokevirtual 311, 3) := by decide +kernel
theorem dX7_drawTableau_63 : decode cX7_drawTableau 63 = .ok (.aload_n 0, 1) := by decide +kernel
theorem dX7_drawTableau_64 : decode cX7_drawTableau 64 = .ok (.getfield 37, 3) := by decide +kernel
theorem dX7_drawTableau_67 : decode cX7_drawTableau 67 = .ok (.aload_n 0, 1) := by decide +kernel
theorem dX7_drawTableau_68 : decode cX7_drawTableau 68 = .ok (.getfield 52, 3) := by decide +kernel
theorem dX7_drawTableau_71 : decode cX7_drawTableau 71 = .ok (.invokevirtual 314, 3) := by decide +kernel
theorem dX7_drawTableau_74 : decode cX7_drawTableau 74 = .ok (.aload_n 0, 1) := by decide +kernel
theorem dX7_drawTableau_75 : decode cX7_drawTableau 75 = .ok (.invokevirtual 287, 3) := by decide +kernel
theorem dX7_drawTableau_78 : decode cX7_drawTableau 78 = .ok (.iconst 0, 1) := by decide +kernel
theorem dX7_drawTableau_79 : decode cX7_drawTableau 79 = .ok (.istore_n 1, 1) := by decide +kernel
theorem dX7_drawTableau_80 : decode cX7_drawTableau 80 = .ok (.iload_n 1, 1) := by decide +kernel
theorem dX7_drawTableau_81 : decode cX7_drawTableau 81 = .ok (.aload_n 0, 1) := by decide +kernel
theorem dX7_drawTableau_82 : decode cX7_drawTableau 82 = .ok (.getfield 52, 3) := by decide +kernel
theorem dX7_drawTableau_85 : decode cX7_drawTableau 85 = .ok (.if_icmp .ge 24, 3) := by decide +kernel
theorem dX7_drawTableau_88 : decode cX7_drawTableau 88 = .ok (.aload_n 0, 1) := by decide +kernel
theorem dX7_drawTableau_89 : decode cX7_drawTableau 89 = .ok (.getfield 37, 3) := by decide +kernel
theorem dX7_drawTableau_92 : decode cX7_drawTableau 92 = .ok (.iload_n 1, 1) := by decide +kernel
theorem dX7_drawTableau_93 : decode cX7_drawTableau 93 = .ok (.iconst 1, 1) := by decide +kernel
theorem dX7_drawTableau_94 : decode cX7_drawTableau 94 = .ok (.iadd, 1) := by decide +kernel
theorem dX7_drawTableau_95 : decode cX7_drawTableau 95 = .ok (.aload_n 0, 1) := by decide +kernel
theorem dX7_drawTableau_96 : decode cX7_drawTableau 96 = .ok (.iload_n 1, 1) := by decide +kernel
theorem dX7_drawTableau_97 : decode cX7_drawTableau 97 = .ok (.invokevirtual 298, 3) := by decide +kernel
theorem dX7_drawTableau_100 : decode cX7_drawTableau 100 = .ok (.invokevirtual 317, 3) := by decide +kernel
theorem dX7_drawTableau_103 : decode cX7_drawTableau 103 = .ok (.iinc 1 1, 3) := by decide +kernel
theorem dX7_drawTableau_106 : decode cX7_drawTableau 106 = .ok (.goto (-26), 3) := by decide +kernel
theorem dX7_drawTableau_109 : decode cX7_drawTableau 109 = .ok (.aload_n 0, 1) := by decide +kernel
theorem dX7_drawTableau_110 : decode cX7_drawTableau 110 = .ok (.getfield 37, 3) := by decide +kernel
theorem dX7_drawTableau_113 : decode cX7_drawTableau 113 = .ok (.aload_n 0, 1) := by decide +kernel
theorem dX7_drawTableau_114 : decode cX7_drawTableau 114 = .ok (.getfield 30, 3) := by decide +kernel
theorem dX7_drawTableau_117 : decode cX7_drawTableau 117 = .ok (.invokevirtual 219, 3) := by decide +kernel
theorem dX7_drawTableau_120 : decode cX7_drawTableau 120 = .ok (.aload_n 0, 1) := by decide +kernel
theorem dX7_drawTableau_121 : decode cX7_drawTableau 121 = .ok (.getfield 37, 3) := by decide +kernel
theorem dX7_drawTableau_124 : decode cX7_drawTableau 124 = .ok (.getfield 320, 3) := by decide +kernel
theorem dX7_drawTableau_127 : decode cX7_drawTableau 127 = .ok (.ireturn, 1) := by decide +kernel
theorem dX7_size_0 : decode cX7_size 0 = .ok (.aload_n 0, 1) := by decide +kernel
theorem dX7_size_1 : decode cX7_size 1 = .ok (.getfield 37, 3) := by decide +kernel
theorem dX7_size_4 : decode cX7_size 4 = .ok (.getfield 320, 3) := by decide +kernel
theorem dX7_size_7 : decode cX7_size 7 = .ok (.ireturn, 1) := by decide +kernel
theorem dX7_nodeWinner_0 : decode cX7_nodeWinner 0 = .ok (.aload_n 0, 1) := by decide +kernel
theorem dX7_nodeWinner_1 : decode cX7_nodeWinner 1 = .ok (.getfield 37, 3) := by decide +kernel
theorem dX7_nodeWinner_4 : decode cX7_nodeWinner 4 = .ok (.iload_n 1, 1) := by decide +kernel
theorem dX7_nodeWinner_5 : decode cX7_nodeWinner 5 = .ok (.invokevirtual 323, 3) := by decide +kernel
theorem dX7_nodeWinner_8 : decode cX7_nodeWinner 8 = .ok (.ifCond .ne 14, 3) := by decide +kernel
theorem dX7_nodeWinner_11 : decode cX7_nodeWinner 11 = .ok (.new 74, 3) := by decide +kernel
theorem dX7_nodeWinner_14 : decode cX7_nodeWinner 14 = .ok (.dup, 1) := by decide +kernel
theorem dX7_nodeWinner_15 : decode cX7_nodeWinner 15 = .ok (.ldc_w 326, 3) := by decide +kernel
theorem dX7_nodeWinner_18 : decode cX7_nodeWinner 18 = .ok (.invokespecial 78, 3) := by decide +kernel
theorem dX7_nodeWinner_21 : decode cX7_nodeWinner 21 = .ok (.athrow, 1) := by decide +kernel
theorem dX7_nodeWinner_22 : decode cX7_nodeWinner 22 = .ok (.aload_n 0, 1) := by decide +kernel
theorem dX7_nodeWinner_23 : decode cX7_nodeWinner 23 = .ok (.getfield 37, 3) := by decide +kernel
theorem dX7_nodeWinner_26 : decode cX7_nodeWinner 26 = .ok (.iload_n 1, 1) := by decide +kernel
theorem dX7_nodeWinner_27 : decode cX7_nodeWinner 27 = .ok (.invokevirtual 272, 3) := by decide +kernel
theorem dX7_nodeWinner_30 : decode cX7_nodeWinner 30 = .ok (.ireturn, 1) := by decide +kernel
theorem dX7_gone_0 : decode cX7_gone 0 = .ok (.aload_n 0, 1) := by decide +kernel
theorem dX7_gone_1 : decode cX7_gone 1 = .ok (.getfield 37, 3) := by decide +kernel
theorem dX7_gone_4 : decode cX7_gone 4 = .ok (.getfield 328, 3) := by decide +kernel
theorem dX7_gone_7 : decode cX7_gone 7 = .ok (.ireturn, 1) := by decide +kernel
theorem dX7_isSide_0 : decode cX7_isSide 0 = .ok (.iload_n 0, 1) := by decide +kernel
theorem dX7_isSide_1 : decode cX7_isSide 1 = .ok (.ifCond .eq 8, 3) := by decide +kernel
theorem dX7_isSide_4 : decode cX7_isSide 4 = .ok (.iload_n 0, 1) := by decide +kernel
theorem dX7_isSide_5 : decode cX7_isSide 5 = .ok (.iconst 1, 1) := by decide +kernel
theorem dX7_isSide_6 : decode cX7_isSide 6 = .ok (.if_icmp .ne 7, 3) := by decide +kernel
theorem dX7_isSide_9 : decode cX7_isSide 9 = .ok (.iconst 1, 1) := by decide +kernel
theorem dX7_isSide_10 : decode cX7_isSide 10 = .ok (.goto 4, 3) := by decide +kernel
theorem dX7_isSide_13 : decode cX7_isSide 13 = .ok (.iconst 0, 1) := by decide +kernel
theorem dX7_isSide_14 : decode cX7_isSide 14 = .ok (.ireturn, 1) := by decide +kernel
theorem dX7_isSideOrNone_0 : decode cX7_isSideOrNone 0 = .ok (.iload_n 0, 1) := by decide +kernel
theorem dX7_isSideOrNone_1 : decode cX7_isSideOrNone 1 = .ok (.iconst (-1), 1) := by decide +kernel
theorem dX7_isSideOrNone_2 : decode cX7_isSideOrNone 2 = .ok (.if_icmp .eq 10, 3) := by decide +kernel
theorem dX7_isSideOrNone_5 : decode cX7_isSideOrNone 5 = .ok (.iload_n 0, 1) := by decide +kernel
theorem dX7_isSideOrNone_6 : decode cX7_isSideOrNone 6 = .ok (.invokestatic 144, 3) := by decide +kernel
theorem dX7_isSideOrNone_9 : decode cX7_isSideOrNone 9 = .ok (.ifCond .eq 7, 3) := by decide +kernel
theorem dX7_isSideOrNone_12 : decode cX7_isSideOrNone 12 = .ok (.iconst 1, 1) := by decide +kernel
theorem dX7_isSideOrNone_13 : decode cX7_isSideOrNone 13 = .ok (.goto 4, 3) := by decide +kernel
theorem dX7_isSideOrNone_16 : decode cX7_isSideOrNone 16 = .ok (.iconst 0, 1) := by decide +kernel
theorem dX7_isSideOrNone_17 : decode cX7_isSideOrNone 17 = .ok (.ireturn, 1) := by decide +kernel
theorem dX7_isTooEarly_0 : decode cX7_isTooEarly 0 = .ok (.aload_n 0, 1) := by decide +kernel
theorem dX7_isTooEarly_1 : decode cX7_isTooEarly 1 = .ok (.getfield 30, 3) := by decide +kernel
theorem dX7_isTooEarly_4 : decode cX7_isTooEarly 4 = .ok (.getfield 101, 3) := by decide +kernel
theorem dX7_isTooEarly_7 : decode cX7_isTooEarly 7 = .ok (.astore_n 2, 1) := by decide +kernel
theorem dX7_isTooEarly_8 : decode cX7_isTooEarly 8 = .ok (.iload_n 1, 1) := by decide +kernel
theorem dX7_isTooEarly_9 : decode cX7_isTooEarly 9 = .ok (.ifCond .lt 15, 3) := by decide +kernel
theorem dX7_isTooEarly_12 : decode cX7_isTooEarly 12 = .ok (.aload_n 2, 1) := by decide +kernel
theorem dX7_isTooEarly_13 : decode cX7_isTooEarly 13 = .ok (.ifnull 15, 3) := by decide +kernel
theorem dX7_isTooEarly_16 : decode cX7_isTooEarly 16 = .ok (.iload_n 1, 1) := by decide +kernel
theorem dX7_isTooEarly_17 : decode cX7_isTooEarly 17 = .ok (.aload_n 2, 1) := by decide +kernel
theorem dX7_isTooEarly_18 : decode cX7_isTooEarly 18 = .ok (.invokevirtual 331, 3) := by decide +kernel
theorem dX7_isTooEarly_21 : decode cX7_isTooEarly 21 = .ok (.if_icmp .ge 7, 3) := by decide +kernel
theorem dX7_isTooEarly_24 : decode cX7_isTooEarly 24 = .ok (.iconst 1, 1) := by decide +kernel
theorem dX7_isTooEarly_25 : decode cX7_isTooEarly 25 = .ok (.goto 4, 3) := by decide +kernel
theorem dX7_isTooEarly_28 : decode cX7_isTooEarly 28 = .ok (.iconst 0, 1) := by decide +kernel
theorem dX7_isTooEarly_29 : decode cX7_isTooEarly 29 = .ok (.ireturn, 1) := by decide +kernel
theorem dX7_arePoolsDrawn_0 : decode cX7_arePoolsDrawn 0 = .ok (.aload_n 0, 1) := by decide +kernel
theorem dX7_arePoolsDrawn_1 : decode cX7_arePoolsDrawn 1 = .ok (.getfield 284, 3) := by decide +kernel
theorem dX7_arePoolsDrawn_4 : decode cX7_arePoolsDrawn 4 = .ok (.ifCond .le 7, 3) := by decide +kernel
theorem dX7_arePoolsDrawn_7 : decode cX7_arePoolsDrawn 7 = .ok (.iconst 1, 1) := by decide +kernel
theorem dX7_arePoolsDrawn_8 : decode cX7_arePoolsDrawn 8 = .ok (.goto 4, 3) := by decide +kernel
theorem dX7_arePoolsDrawn_11 : decode cX7_arePoolsDrawn 11 = .ok (.iconst 0, 1) := by decide +kernel
theorem dX7_arePoolsDrawn_12 : decode cX7_arePoolsDrawn 12 = .ok (.ireturn, 1) := by decide +kernel
theorem dX7_fencerAt_0 : decode cX7_fencerAt 0 = .ok (.iload_n 1, 1) := by decide +kernel
theorem dX7_fencerAt_1 : decode cX7_fencerAt 1 = .ok (.ifCond .lt 20, 3) := by decide +kernel
theorem dX7_fencerAt_4 : decode cX7_fencerAt 4 = .ok (.iload_n 1, 1) := by decide +kernel
theorem dX7_fencerAt_5 : decode cX7_fencerAt 5 = .ok (.aload_n 0, 1) := by decide +kernel
theorem dX7_fencerAt_6 : decode cX7_fencerAt 6 = .ok (.getfield 52, 3) := by decide +kernel
theorem dX7_fencerAt_9 : decode cX7_fencerAt 9 = .ok (.if_icmp .ge 12, 3) := by decide +kernel
theorem dX7_fencerAt_12 : decode cX7_fencerAt 12 = .ok (.aload_n 0, 1) := by decide +kernel
theorem dX7_fencerAt_13 : decode cX7_fencerAt 13 = .ok (.getfield 11, 3) := by decide +kernel
theorem dX7_fencerAt_16 : decode cX7_fencerAt 16 = .ok (.iload_n 1, 1) := by decide +kernel
theorem dX7_fencerAt_17 : decode cX7_fencerAt 17 = .ok (.aaload, 1) := by decide +kernel
theorem dX7_fencerAt_18 : decode cX7_fencerAt 18 = .ok (.goto 4, 3) := by decide +kernel
theorem dX7_fencerAt_21 : decode cX7_fencerAt 21 = .ok (.aconst_null, 1) := by decide +kernel
theorem dX7_fencerAt_22 : decode cX7_fencerAt 22 = .ok (.areturn, 1) := by decide +kernel
theorem dX7_weaponAt_0 : decode cX7_weaponAt 0 = .ok (.iload_n 1, 1) := by decide +kernel
theorem dX7_weaponAt_1 : decode cX7_weaponAt 1 = .ok (.ifCond .lt 20, 3) := by decide +kernel
theorem dX7_weaponAt_4 : decode cX7_weaponAt 4 = .ok (.iload_n 1, 1) := by decide +kernel
theorem dX7_weaponAt_5 : decode cX7_weaponAt 5 = .ok (.aload_n 0, 1) := by decide +kernel
theorem dX7_weaponAt_6 : decode cX7_weaponAt 6 = .ok (.getfield 79, 3) := by decide +kernel
theorem dX7_weaponAt_9 : decode cX7_weaponAt 9 = .ok (.if_icmp .ge 12, 3) := by decide +kernel
theorem dX7_weaponAt_12 : decode cX7_weaponAt 12 = .ok (.aload_n 0, 1) := by decide +kernel
theorem dX7_weaponAt_13 : decode cX7_weaponAt 13 = .ok (.getfield 17, 3) := by decide +kernel
theorem dX7_weaponAt_16 : decode cX7_weaponAt 16 = .ok (.iload_n 1, 1) := by decide +kernel
theorem dX7_weaponAt_17 : decode cX7_weaponAt 17 = .ok (.aaload, 1) := by decide +kernel
theorem dX7_weaponAt_18 : decode cX7_weaponAt 18 = .ok (.goto 4, 3) := by decide +kernel
theorem dX7_weaponAt_21 : decode cX7_weaponAt 21 = .ok (.aconst_null, 1) := by decide +kernel
theorem dX7_weaponAt_22 : decode cX7_weaponAt 22 = .ok (.areturn, 1) := by decide +kernel
theorem dX7_boutAt_0 : decode cX7_boutAt 0 = .ok (.iload_n 1, 1) := by decide +kernel
theorem dX7_boutAt_1 : decode cX7_boutAt 1 = .ok (.ifCond .lt 18, 3) := by decide +kernel
theorem dX7_boutAt_4 : decode cX7_boutAt 4 = .ok (.iload_n 1, 1) := by decide +kernel
theorem dX7_boutAt_5 : decode cX7_boutAt 5 = .ok (.aload_n 0, 1) := by decide +kernel
theorem dX7_boutAt_6 : decode cX7_boutAt 6 = .ok (.getfield 284, 3) := by decide +kernel
theorem dX7_boutAt_9 : decode cX7_boutAt 9 = .ok (.if_icmp .ge 10, 3) := by decide +kernel
theorem dX7_boutAt_12 : decode cX7_boutAt 12 = .ok (.aload_n 0, 1) := by decide +kernel
theorem dX7_boutAt_13 : decode cX7_boutAt 13 = .ok (.getfield 23, 3) := by decide +kernel
theorem dX7_boutAt_16 : decode cX7_boutAt 16 = .ok (.iload_n 1, 1) := by decide +kernel
theorem dX7_boutAt_17 : decode cX7_boutAt 17 = .ok (.aaload, 1) := by decide +kernel
theorem dX7_boutAt_18 : decode cX7_boutAt 18 = .ok (.areturn, 1) := by decide +kernel
theorem dX7_boutAt_19 : decode cX7_boutAt 19 = .ok (.iload_n 1, 1) := by decide +kernel
theorem dX7_boutAt_20 : decode cX7_boutAt 20 = .ok (.bipush 100, 2) := by decide +kernel
theorem dX7_boutAt_22 : decode cX7_boutAt 22 = .ok (.if_icmp .le 17, 3) := by decide +kernel
theorem dX7_boutAt_25 : decode cX7_boutAt 25 = .ok (.aload_n 0, 1) := by decide +kernel
theorem dX7_boutAt_26 : decode cX7_boutAt 26 = .ok (.getfield 37, 3) := by decide +kernel
theorem dX7_boutAt_29 : decode cX7_boutAt 29 = .ok (.iload_n 1, 1) := by decide +kernel
theorem dX7_boutAt_30 : decode cX7_boutAt 30 = .ok (.bipush 100, 2) := by decide +kernel
theorem dX7_boutAt_32 : decode cX7_boutAt 32 = .ok (.isub, 1) := by decide +kernel
theorem dX7_boutAt_33 : decode cX7_boutAt 33 = .ok (.invokevirtual 334, 3) := by decide +kernel
theorem dX7_boutAt_36 : decode cX7_boutAt 36 = .ok (.goto 4, 3) := by decide +kernel
theorem dX7_boutAt_39 : decode cX7_boutAt 39 = .ok (.aconst_null, 1) := by decide +kernel
theorem dX7_boutAt_40 : decode cX7_boutAt 40 = .ok (.areturn, 1) := by decide +kernel
theorem dX7_fail_0 : decode cX7_fail 0 = .ok (.aload_n 1, 1) := by decide +kernel
theorem dX7_fail_1 : decode cX7_fail 1 = .ok (.iconst 2, 1) := by decide +kernel
theorem dX7_fail_2 : decode cX7_fail 2 = .ok (.putfield 98, 3) := by decide +kernel
theorem dX7_fail_5 : decode cX7_fail 5 = .ok (.aload_n 1, 1) := by decide +kernel
theorem dX7_fail_6 : decode cX7_fail 6 = .ok (.aload_n 0, 1) := by decide +kernel
theorem dX7_fail_7 : decode cX7_fail 7 = .ok (.getfield 37, 3) := by decide +kernel
theorem dX7_fail_10 : decode cX7_fail 10 = .ok (.invokevirtual 306, 3) := by decide +kernel
theorem dX7_fail_13 : decode cX7_fail 13 = .ok (.ifCond .ne 7, 3) := by decide +kernel
theorem dX7_fail_16 : decode cX7_fail 16 = .ok (.iconst 1, 1) := by decide +kernel
theorem dX7_fail_17 : decode cX7_fail 17 = .ok (.goto 4, 3) := by decide +kernel
theorem dX7_fail_20 : decode cX7_fail 20 = .ok (.iconst 0, 1) := by decide +kernel
theorem dX7_fail_21 : decode cX7_fail 21 = .ok (.putfield 335, 3) := by decide +kernel
theorem dX7_fail_24 : decode cX7_fail 24 = .ok (.iconst 0, 1) := by decide +kernel
theorem dX7_fail_25 : decode cX7_fail 25 = .ok (.istore_n 2, 1) := by decide +kernel
theorem dX7_fail_26 : decode cX7_fail 26 = .ok (.iload_n 2, 1) := by decide +kernel
theorem dX7_fail_27 : decode cX7_fail 27 = .ok (.aload_n 0, 1) := by decide +kernel
theorem dX7_fail_28 : decode cX7_fail 28 = .ok (.getfield 284, 3) := by decide +kernel
theorem dX7_fail_31 : decode cX7_fail 31 = .ok (.if_icmp .ge 24, 3) := by decide +kernel
theorem dX7_fail_34 : decode cX7_fail 34 = .ok (.aload_n 0, 1) := by decide +kernel
theorem dX7_fail_35 : decode cX7_fail 35 = .ok (.getfield 23, 3) := by decide +kernel
theorem dX7_fail_38 : decode cX7_fail 38 = .ok (.iload_n 2, 1) := by decide +kernel
theorem dX7_fail_39 : decode cX7_fail 39 = .ok (.aaload, 1) := by decide +kernel
theorem dX7_fail_40 : decode cX7_fail 40 = .ok (.astore_n 3, 1) := by decide +kernel
theorem dX7_fail_41 : decode cX7_fail 41 = .ok (.aload_n 3, 1) := by decide +kernel
theorem dX7_fail_42 : decode cX7_fail 42 = .ok (.ifnull 7, 3) := by decide +kernel
theorem dX7_fail_45 : decode cX7_fail 45 = .ok (.aload_n 3, 1) := by decide +kernel
theorem dX7_fail_46 : decode cX7_fail 46 = .ok (.invokevirtual 246, 3) := by decide +kernel
theorem dX7_fail_49 : decode cX7_fail 49 = .ok (.iinc 2 1, 3) := by decide +kernel
theorem dX7_fail_52 : decode cX7_fail 52 = .ok (.goto (-26), 3) := by decide +kernel
theorem dX7_fail_55 : decode cX7_fail 55 = .ok (.aload_n 0, 1) := by decide +kernel
theorem dX7_fail_56 : decode cX7_fail 56 = .ok (.getfield 37, 3) := by decide +kernel
theorem dX7_fail_59 : decode cX7_fail 59 = .ok (.invokevirtual 338, 3) := by decide +kernel
theorem dX7_fail_62 : decode cX7_fail 62 = .ok (.aload_n 0, 1) := by decide +kernel
theorem dX7_fail_63 : decode cX7_fail 63 = .ok (.getfield 37, 3) := by decide +kernel
theorem dX7_fail_66 : decode cX7_fail 66 = .ok (.aload_n 0, 1) := by decide +kernel
theorem dX7_fail_67 : decode cX7_fail 67 = .ok (.getfield 30, 3) := by decide +kernel
theorem dX7_fail_70 : decode cX7_fail 70 = .ok (.invokevirtual 219, 3) := by decide +kernel
theorem dX7_fail_73 : decode cX7_fail 73 = .ok (.return_, 1) := by decide +kernel
theorem dX7_drawPool_0 : decode cX7_drawPool 0 = .ok (.iconst 0, 1) := by decide +kernel
theorem dX7_drawPool_1 : decode cX7_drawPool 1 = .ok (.istore_n 3, 1) := by decide +kernel
theorem dX7_drawPool_2 : decode cX7_drawPool 2 = .ok (.iload_n 3, 1) := by decide +kernel
theorem dX7_drawPool_3 : decode cX7_drawPool 3 = .ok (.aload_n 0, 1) := by decide +kernel
theorem dX7_drawPool_4 : decode cX7_drawPool 4 = .ok (.getfield 52, 3) := by decide +kernel
theorem dX7_drawPool_7 : decode cX7_drawPool 7 = .ok (.if_icmp .ge 55, 3) := by decide +kernel
theorem dX7_drawPool_10 : decode cX7_drawPool 10 = .ok (.iload_n 3, 1) := by decide +kernel
theorem dX7_drawPool_11 : decode cX7_drawPool 11 = .ok (.iconst 1, 1) := by decide +kernel
theorem dX7_drawPool_12 : decode cX7_drawPool 12 = .ok (.iadd, 1) := by decide +kernel
theorem dX7_drawPool_13 : decode cX7_drawPool 13 = .ok (.istore 4, 2) := by decide +kernel
theorem dX7_drawPool_15 : decode cX7_drawPool 15 = .ok (.iload 4, 2) := by decide +kernel
theorem dX7_drawPool_17 : decode cX7_drawPool 17 = .ok (.aload_n 0, 1) := by decide +kernel
theorem dX7_drawPool_18 : decode cX7_drawPool 18 = .ok (.getfield 52, 3) := by decide +kernel
theorem dX7_drawPool_21 : decode cX7_drawPool 21 = .ok (.if_icmp .ge 35, 3) := by decide +kernel
theorem dX7_drawPool_24 : decode cX7_drawPool 24 = .ok (.iload_n 3, 1) := by decide +kernel
theorem dX7_drawPool_25 : decode cX7_drawPool 25 = .ok (.iload_n 2, 1) := by decide +kernel
theorem dX7_drawPool_26 : decode cX7_drawPool 26 = .ok (.invokestatic 339, 3) := by decide +kernel
theorem dX7_drawPool_29 : decode cX7_drawPool 29 = .ok (.iload_n 1, 1) := by decide +kernel
theorem dX7_drawPool_30 : decode cX7_drawPool 30 = .ok (.if_icmp .ne 20, 3) := by decide +kernel
theorem dX7_drawPool_33 : decode cX7_drawPool 33 = .ok (.iload 4, 2) := by decide +kernel
theorem dX7_drawPool_35 : decode cX7_drawPool 35 = .ok (.iload_n 2, 1) := by decide +kernel
theorem dX7_drawPool_36 : decode cX7_drawPool 36 = .ok (.invokestatic 339, 3) := by decide +kernel
theorem dX7_drawPool_39 : decode cX7_drawPool 39 = .ok (.iload_n 1, 1) := by decide +kernel
theorem dX7_drawPool_40 : decode cX7_drawPool 40 = .ok (.if_icmp .ne 10, 3) := by decide +kernel
theorem dX7_drawPool_43 : decode cX7_drawPool 43 = .ok (.aload_n 0, 1) := by decide +kernel
theorem dX7_drawPool_44 : decode cX7_drawPool 44 = .ok (.iload_n 3, 1) := by decide +kernel
theorem dX7_drawPool_45 : decode cX7_drawPool 45 = .ok (.iload 4, 2) := by decide +kernel
theorem dX7_drawPool_47 : decode cX7_drawPool 47 = .ok (.invokevirtual 343, 3) := by decide +kernel
theorem dX7_drawPool_50 : decode cX7_drawPool 50 = .ok (.iinc 4 1, 3) := by decide +kernel
theorem dX7_drawPool_53 : decode cX7_drawPool 53 = .ok (.goto (-38), 3) := by decide +kernel
theorem dX7_drawPool_56 : decode cX7_drawPool 56 = .ok (.iinc 3 1, 3) := by decide +kernel
theorem dX7_drawPool_59 : decode cX7_drawPool 59 = .ok (.goto (-57), 3) := by decide +kernel
theorem dX7_drawPool_62 : decode cX7_drawPool 62 = .ok (.return_, 1) := by decide +kernel
theorem dX7_poolOf_0 : decode cX7_poolOf 0 = .ok (.iload_n 1, 1) := by decide +kernel
theorem dX7_poolOf_1 : decode cX7_poolOf 1 = .ok (.ifCond .le 9, 3) := by decide +kernel
theorem dX7_poolOf_4 : decode cX7_poolOf 4 = .ok (.iload_n 0, 1) := by decide +kernel
theorem dX7_poolOf_5 : decode cX7_poolOf 5 = .ok (.iload_n 1, 1) := by decide +kernel
theorem dX7_poolOf_6 : decode cX7_poolOf 6 = .ok (.irem, 1) := by decide +kernel
theorem dX7_poolOf_7 : decode cX7_poolOf 7 = .ok (.goto 4, 3) := by decide +kernel
theorem dX7_poolOf_10 : decode cX7_poolOf 10 = .ok (.iconst (-1), 1) := by decide +kernel
theorem dX7_poolOf_11 : decode cX7_poolOf 11 = .ok (.ireturn, 1) := by decide +kernel
theorem dX7_addPoolBout_0 : decode cX7_addPoolBout 0 = .ok (.aload_n 0, 1) := by decide +kernel
theorem dX7_addPoolBout_1 : decode cX7_addPoolBout 1 = .ok (.getfield 284, 3) := by decide +kernel
theorem dX7_addPoolBout_4 : decode cX7_addPoolBout 4 = .ok (.bipush 66, 2) := by decide +kernel
theorem dX7_addPoolBout_6 : decode cX7_addPoolBout 6 = .ok (.if_icmp .ge 32, 3) := by decide +kernel
theorem dX7_addPoolBout_9 : decode cX7_addPoolBout 9 = .ok (.aload_n 0, 1) := by decide +kernel
theorem dX7_addPoolBout_10 : decode cX7_addPoolBout 10 = .ok (.getfield 23, 3) := by decide +kernel
theorem dX7_addPoolBout_13 : decode cX7_addPoolBout 13 = .ok (.aload_n 0, 1) := by decide +kernel
theorem dX7_addPoolBout_14 : decode cX7_addPoolBout 14 = .ok (.getfield 284, 3) := by decide +kernel
theorem dX7_addPoolBout_17 : decode cX7_addPoolBout 17 = .ok (.new 21, 3) := by decide +kernel
theorem dX7_addPoolBout_20 : decode cX7_addPoolBout 20 = .ok (.dup, 1) := by decide +kernel
theorem dX7_addPoolBout_21 : decode cX7_addPoolBout 21 = .ok (.iconst 1, 1) := by decide +kernel
theorem dX7_addPoolBout_22 : decode cX7_addPoolBout 22 = .ok (.iload_n 1, 1) := by decide +kernel
theorem dX7_addPoolBout_23 : decode cX7_addPoolBout 23 = .ok (.iload_n 2, 1) := by decide +kernel
theorem dX7_addPoolBout_24 : decode cX7_addPoolBout 24 = .ok (.invokespecial 346, 3) := by decide +kernel
theorem dX7_addPoolBout_27 : decode cX7_addPoolBout 27 = .ok (.aastore, 1) := by decide +kernel
theorem dX7_addPoolBout_28 : decode cX7_addPoolBout 28 = .ok (.aload_n 0, 1) := by decide +kernel
theorem dX7_addPoolBout_29 : decode cX7_addPoolBout 29 = .ok (.dup, 1) := by decide +kernel
theorem dX7_addPoolBout_30 : decode cX7_addPoolBout 30 = .ok (.getfield 284, 3) := by decide +kernel
theorem dX7_addPoolBout_33 : decode cX7_addPoolBout 33 = .ok (.iconst 1, 1) := by decide +kernel
theorem dX7_addPoolBout_34 : decode cX7_addPoolBout 34 = .ok (.iadd, 1) := by decide +kernel
theorem dX7_addPoolBout_35 : decode cX7_addPoolBout 35 = .ok (.putfield 284, 3) := by decide +kernel
theorem dX7_addPoolBout_38 : decode cX7_addPoolBout 38 = .ok (.return_, 1) := by decide +kernel
theorem dX7_isAPoolBoutOpen_0 : decode cX7_isAPoolBoutOpen 0 = .ok (.iconst 0, 1) := by decide +kernel
theorem dX7_isAPoolBoutOpen_1 : decode cX7_isAPoolBoutOpen 1 = .ok (.istore_n 1, 1) := by decide +kernel
theorem dX7_isAPoolBoutOpen_2 : decode cX7_isAPoolBoutOpen 2 = .ok (.iload_n 1, 1) := by decide +kernel
theorem dX7_isAPoolBoutOpen_3 : decode cX7_isAPoolBoutOpen 3 = .ok (.aload_n 0, 1) := by decide +kernel
theorem dX7_isAPoolBoutOpen_4 : decode cX7_isAPoolBoutOpen 4 = .ok (.getfield 284, 3) := by decide +kernel
theorem dX7_isAPoolBoutOpen_7 : decode cX7_isAPoolBoutOpen 7 = .ok (.if_icmp .ge 30, 3) := by decide +kernel
theorem dX7_isAPoolBoutOpen_10 : decode cX7_isAPoolBoutOpen 10 = .ok (.aload_n 0, 1) := by decide +kernel
theorem dX7_isAPoolBoutOpen_11 : decode cX7_isAPoolBoutOpen 11 = .ok (.getfield 23, 3) := by decide +kernel
theorem dX7_isAPoolBoutOpen_14 : decode cX7_isAPoolBoutOpen 14 = .ok (.iload_n 1, 1) := by decide +kernel
theorem dX7_isAPoolBoutOpen_15 : decode cX7_isAPoolBoutOpen 15 = .ok (.aaload, 1) := by decide +kernel
theorem dX7_isAPoolBoutOpen_16 : decode cX7_isAPoolBoutOpen 16 = .ok (.astore_n 2, 1) := by decide +kernel
theorem dX7_isAPoolBoutOpen_17 : decode cX7_isAPoolBoutOpen 17 = .ok (.aload_n 2, 1) := by decide +kernel
theorem dX7_isAPoolBoutOpen_18 : decode cX7_isAPoolBoutOpen 18 = .ok (.ifnull 13, 3) := by decide +kernel
theorem dX7_isAPoolBoutOpen_21 : decode cX7_isAPoolBoutOpen 21 = .ok (.aload_n 2, 1) := by decide +kernel
theorem dX7_isAPoolBoutOpen_22 : decode cX7_isAPoolBoutOpen 22 = .ok (.invokevirtual 349, 3) := by decide +kernel
theorem dX7_isAPoolBoutOpen_25 : decode cX7_isAPoolBoutOpen 25 = .ok (.iconst (-1), 1) := by decide +kernel
theorem dX7_isAPoolBoutOpen_26 : decode cX7_isAPoolBoutOpen 26 = .ok (.if_icmp .ne 5, 3) := by decide +kernel
theorem dX7_isAPoolBoutOpen_29 : decode cX7_isAPoolBoutOpen 29 = .ok (.iconst 1, 1) := by decide +kernel
theorem dX7_isAPoolBoutOpen_30 : decode cX7_isAPoolBoutOpen 30 = .ok (.ireturn, 1) := by decide +kernel
theorem dX7_isAPoolBoutOpen_31 : decode cX7_isAPoolBoutOpen 31 = .ok (.iinc 1 1, 3) := by decide +kernel
theorem dX7_isAPoolBoutOpen_34 : decode cX7_isAPoolBoutOpen 34 = .ok (.goto (-32), 3) := by decide +kernel
theorem dX7_isAPoolBoutOpen_37 : decode cX7_isAPoolBoutOpen 37 = .ok (.iconst 0, 1) := by decide +kernel
theorem dX7_isAPoolBoutOpen_38 : decode cX7_isAPoolBoutOpen 38 = .ok (.ireturn, 1) := by decide +kernel
theorem dX7_countPools_0 : decode cX7_countPools 0 = .ok (.iconst 0, 1) := by decide +kernel
theorem dX7_countPools_1 : decode cX7_countPools 1 = .ok (.istore_n 1, 1) := by decide +kernel
theorem dX7_countPools_2 : decode cX7_countPools 2 = .ok (.iload_n 1, 1) := by decide +kernel
theorem dX7_countPools_3 : decode cX7_countPools 3 = .ok (.aload_n 0, 1) := by decide +kernel
theorem dX7_countPools_4 : decode cX7_countPools 4 = .ok (.getfield 52, 3) := by decide +kernel
theorem dX7_countPools_7 : decode cX7_countPools 7 = .ok (.if_icmp .ge 23, 3) := by decide +kernel
theorem dX7_countPools_10 : decode cX7_countPools 10 = .ok (.aload_n 0, 1) := by decide +kernel
theorem dX7_countPools_11 : decode cX7_countPools 11 = .ok (.iload_n 1, 1) := by decide +kernel
theorem dX7_countPools_12 : decode cX7_countPools 12 = .ok (.invokevirtual 70, 3) := by decide +kernel
theorem dX7_countPools_15 : decode cX7_countPools 15 = .ok (.astore_n 2, 1) := by decide +kernel
theorem dX7_countPools_16 : decode cX7_countPools 16 = .ok (.aload_n 2, 1) := by decide +kernel
theorem dX7_countPools_17 : decode cX7_countPools 17 = .ok (.ifnull 7, 3) := by decide +kernel
theorem dX7_countPools_20 : decode cX7_countPools 20 = .ok (.aload_n 2, 1) := by decide +kernel
theorem dX7_countPools_21 : decode cX7_countPools 21 = .ok (.invokevirtual 352, 3) := by decide +kernel
theorem dX7_countPools_24 : decode cX7_countPools 24 = .ok (.iinc 1 1, 3) := by decide +kernel
theorem dX7_countPools_27 : decode cX7_countPools 27 = .ok (.goto (-25), 3) := by decide +kernel
theorem dX7_countPools_30 : decode cX7_countPools 30 = .ok (.iconst 0, 1) := by decide +kernel
theorem dX7_countPools_31 : decode cX7_countPools 31 = .ok (.istore_n 1, 1) := by decide +kernel
theorem dX7_countPools_32 : decode cX7_countPools 32 = .ok (.iload_n 1, 1) := by decide +kernel
theorem dX7_countPools_33 : decode cX7_countPools 33 = .ok (.aload_n 0, 1) := by decide +kernel
theorem dX7_countPools_34 : decode cX7_countPools 34 = .ok (.getfield 284, 3) := by decide +kernel
theorem dX7_countPools_37 : decode cX7_countPools 37 = .ok (.if_icmp .ge 40, 3) := by decide +kernel
theorem dX7_countPools_40 : decode cX7_countPools 40 = .ok (.aload_n 0, 1) := by decide +kernel
theorem dX7_countPools_41 : decode cX7_countPools 41 = .ok (.getfield 23, 3) := by decide +kernel
theorem dX7_countPools_44 : decode cX7_countPools 44 = .ok (.iload_n 1, 1) := by decide +kernel
theorem dX7_countPools_45 : decode cX7_countPools 45 = .ok (.aaload, 1) := by decide +kernel
theorem dX7_countPools_46 : decode cX7_countPools 46 = .ok (.astore_n 2, 1) := by decide +kernel
theorem dX7_countPools_47 : decode cX7_countPools 47 = .ok (.aload_n 2, 1) := by decide +kernel
theorem dX7_countPools_48 : decode cX7_countPools 48 = .ok (.ifnull 23, 3) := by decide +kernel
theorem dX7_countPools_51 : decode cX7_countPools 51 = .ok (.aload_n 2, 1) := by decide +kernel
theorem dX7_countPools_52 : decode cX7_countPools 52 = .ok (.invokevirtual 349, 3) := by decide +kernel
theorem dX7_countPools_55 : decode cX7_countPools 55 = .ok (.iconst (-1), 1) := by decide +kernel
theorem dX7_countPools_56 : decode cX7_countPools 56 = .ok (.if_icmp .eq 15, 3) := by decide +kernel
theorem dX7_countPools_59 : decode cX7_countPools 59 = .ok (.aload_n 0, 1) := by decide +kernel
theorem dX7_countPools_60 : decode cX7_countPools 60 = .ok (.aload_n 2, 1) := by decide +kernel
theorem dX7_countPools_61 : decode cX7_countPools 61 = .ok (.iconst 0, 1) := by decide +kernel
theorem dX7_countPools_62 : decode cX7_countPools 62 = .ok (.invokevirtual 355, 3) := by decide +kernel
theorem dX7_countPools_65 : decode cX7_countPools 65 = .ok (.aload_n 0, 1) := by decide +kernel
theorem dX7_countPools_66 : decode cX7_countPools 66 = .ok (.aload_n 2, 1) := by decide +kernel
theorem dX7_countPools_67 : decode cX7_countPools 67 = .ok (.iconst 1, 1) := by decide +kernel
theorem dX7_countPools_68 : decode cX7_countPools 68 = .ok (.invokevirtual 355, 3) := by decide +kernel
theorem dX7_countPools_71 : decode cX7_countPools 71 = .ok (.iinc 1 1, 3) := by decide +kernel
theorem dX7_countPools_74 : decode cX7_countPools 74 = .ok (.goto (-42), 3) := by decide +kernel
theorem dX7_countPools_77 : decode cX7_countPools 77 = .ok (.return_, 1) := by decide +kernel
theorem dX7_countSide_0 : decode cX7_countSide 0 = .ok (.aload_n 0, 1) := by decide +kernel
theorem dX7_countSide_1 : decode cX7_countSide 1 = .ok (.aload_n 1, 1) := by decide +kernel
theorem dX7_countSide_2 : decode cX7_countSide 2 = .ok (.iload_n 2, 1) := by decide +kernel
theorem dX7_countSide_3 : decode cX7_countSide 3 = .ok (.invokevirtual 155, 3) := by decide +kernel
theorem dX7_countSide_6 : decode cX7_countSide 6 = .ok (.invokevirtual 70, 3) := by decide +kernel
theorem dX7_countSide_9 : decode cX7_countSide 9 = .ok (.astore_n 3, 1) := by decide +kernel
theorem dX7_countSide_10 : decode cX7_countSide 10 = .ok (.aload_n 3, 1) := by decide +kernel
theorem dX7_countSide_11 : decode cX7_countSide 11 = .ok (.ifnull 38, 3) := by decide +kernel
theorem dX7_countSide_14 : decode cX7_countSide 14 = .ok (.aload_n 3, 1) := by decide +kernel
theorem dX7_countSide_15 : decode cX7_countSide 15 = .ok (.aload_n 1, 1) := by decide +kernel
theorem dX7_countSide_16 : decode cX7_countSide 16 = .ok (.getfield 254, 3) := by decide +kernel
theorem dX7_countSide_19 : decode cX7_countSide 19 = .ok (.iload_n 2, 1) := by decide +kernel
theorem dX7_countSide_20 : decode cX7_countSide 20 = .ok (.invokevirtual 257, 3) := by decide +kernel
theorem dX7_countSide_23 : decode cX7_countSide 23 = .ok (.aload_n 1, 1) := by decide +kernel
theorem dX7_countSide_24 : decode cX7_countSide 24 = .ok (.getfield 254, 3) := by decide +kernel
theorem dX7_countSide_27 : decode cX7_countSide 27 = .ok (.iconst 1, 1) := by decide +kernel
theorem dX7_countSide_28 : decode cX7_countSide 28 = .ok (.iload_n 2, 1) := by decide +kernel
theorem dX7_countSide_29 : decode cX7_countSide 29 = .ok (.isub, 1) := by decide +kernel
theorem dX7_countSide_30 : decode cX7_countSide 30 = .ok (.invokevirtual 257, 3) := by decide +kernel
theorem dX7_countSide_33 : decode cX7_countSide 33 = .ok (.aload_n 1, 1) := by decide +kernel
theorem dX7_countSide_34 : decode cX7_countSide 34 = .ok (.invokevirtual 349, 3) := by decide +kernel
theorem dX7_countSide_37 : decode cX7_countSide 37 = .ok (.iload_n 2, 1) := by decide +kernel
theorem dX7_countSide_38 : decode cX7_countSide 38 = .ok (.if_icmp .ne 7, 3) := by decide +kernel
theorem dX7_countSide_41 : decode cX7_countSide 41 = .ok (.iconst 1, 1) := by decide +kernel
theorem dX7_countSide_42 : decode cX7_countSide 42 = .ok (.goto 4, 3) := by decide +kernel
theorem dX7_countSide_45 : decode cX7_countSide 45 = .ok (.iconst 0, 1) := by decide +kernel
theorem dX7_countSide_46 : decode cX7_countSide 46 = .ok (.invokevirtual 359, 3) := by decide +kernel
theorem dX7_countSide_49 : decode cX7_countSide 49 = .ok (.return_, 1) := by decide +kernel
theorem dX7_fencerInPlace_0 : decode cX7_fencerInPlace 0 = .ok (.iconst 0, 1) := by decide +kernel
theorem dX7_fencerInPlace_1 : decode cX7_fencerInPlace 1 = .ok (.istore_n 2, 1) := by decide +kernel
theorem dX7_fencerInPlace_2 : decode cX7_fencerInPlace 2 = .ok (.iload_n 2, 1) := by decide +kernel
theorem dX7_fencerInPlace_3 : decode cX7_fencerInPlace 3 = .ok (.aload_n 0, 1) := by decide +kernel
theorem dX7_fencerInPlace_4 : decode cX7_fencerInPlace 4 = .ok (.getfield 52, 3) := by decide +kernel
theorem dX7_fencerInPlace_7 : decode cX7_fencerInPlace 7 = .ok (.if_icmp .ge 30, 3) := by decide +kernel
theorem dX7_fencerInPlace_10 : decode cX7_fencerInPlace 10 = .ok (.aload_n 0, 1) := by decide +kernel
theorem dX7_fencerInPlace_11 : decode cX7_fencerInPlace 11 = .ok (.iload_n 2, 1) := by decide +kernel
theorem dX7_fencerInPlace_12 : decode cX7_fencerInPlace 12 = .ok (.invokevirtual 70, 3) := by decide +kernel
theorem dX7_fencerInPlace_15 : decode cX7_fencerInPlace 15 = .ok (.astore_n 3, 1) := by decide +kernel
theorem dX7_fencerInPlace_16 : decode cX7_fencerInPlace 16 = .ok (.aload_n 3, 1) := by decide +kernel
theorem dX7_fencerInPlace_17 : decode cX7_fencerInPlace 17 = .ok (.ifnull 14, 3) := by decide +kernel
theorem dX7_fencerInPlace_20 : decode cX7_fencerInPlace 20 = .ok (.aload_n 0, 1) := by decide +kernel
theorem dX7_fencerInPlace_21 : decode cX7_fencerInPlace 21 = .ok (.aload_n 3, 1) := by decide +kernel
theorem dX7_fencerInPlace_22 : decode cX7_fencerInPlace 22 = .ok (.invokevirtual 363, 3) := by decide +kernel
theorem dX7_fencerInPlace_25 : decode cX7_fencerInPlace 25 = .ok (.iload_n 1, 1) := by decide +kernel
theorem dX7_fencerInPlace_26 : decode cX7_fencerInPlace 26 = .ok (.if_icmp .ne 5, 3) := by decide +kernel
theorem dX7_fencerInPlace_29 : decode cX7_fencerInPlace 29 = .ok (.iload_n 2, 1) := by decide +kernel
theorem dX7_fencerInPlace_30 : decode cX7_fencerInPlace 30 = .ok (.ireturn, 1) := by decide +kernel
theorem dX7_fencerInPlace_31 : decode cX7_fencerInPlace 31 = .ok (.iinc 2 1, 3) := by decide +kernel
theorem dX7_fencerInPlace_34 : decode cX7_fencerInPlace 34 = .ok (.goto (-32), 3) := by decide +kernel
theorem dX7_fencerInPlace_37 : decode cX7_fencerInPlace 37 = .ok (.iconst (-1), 1) := by decide +kernel
theorem dX7_fencerInPlace_38 : decode cX7_fencerInPlace 38 = .ok (.ireturn, 1) := by decide +kernel
theorem dX7_fencersAhead_0 : decode cX7_fencersAhead 0 = .ok (.iconst 0, 1) := by decide +kernel
theorem dX7_fencersAhead_1 : decode cX7_fencersAhead 1 = .ok (.istore_n 2, 1) := by decide +kernel
theorem dX7_fencersAhead_2 : decode cX7_fencersAhead 2 = .ok (.iconst 0, 1) := by decide +kernel
theorem dX7_fencersAhead_3 : decode cX7_fencersAhead 3 = .ok (.istore_n 3, 1) := by decide +kernel
theorem dX7_fencersAhead_4 : decode cX7_fencersAhead 4 = .ok (.iload_n 3, 1) := by decide +kernel
theorem dX7_fencersAhead_5 : decode cX7_fencersAhead 5 = .ok (.aload_n 0, 1) := by decide +kernel
theorem dX7_fencersAhead_6 : decode cX7_fencersAhead 6 = .ok (.getfield 52, 3) := by decide +kernel
theorem dX7_fencersAhead_9 : decode cX7_fencersAhead 9 = .ok (.if_icmp .ge 33, 3) := by decide +kernel
theorem dX7_fencersAhead_12 : decode cX7_fencersAhead 12 = .ok (.aload_n 0, 1) := by decide +kernel
theorem dX7_fencersAhead_13 : decode cX7_fencersAhead 13 = .ok (.iload_n 3, 1) := by decide +kernel
theorem dX7_fencersAhead_14 : decode cX7_fencersAhead 14 = .ok (.invokevirtual 70, 3) := by decide +kernel
theorem dX7_fencersAhead_17 : decode cX7_fencersAhead 17 = .ok (.astore 4, 2) := by decide +kernel
theorem dX7_fencersAhead_19 : decode cX7_fencersAhead 19 = .ok (.aload 4, 2) := by decide +kernel
theorem dX7_fencersAhead_21 : decode cX7_fencersAhead 21 = .ok (.ifnull 15, 3) := by decide +kernel
theorem dX7_fencersAhead_24 : decode cX7_fencersAhead 24 = .ok (.aload 4, 2) := by decide +kernel
theorem dX7_fencersAhead_26 : decode cX7_fencersAhead 26 = .ok (.aload_n 1, 1) := by decide +kernel
theorem dX7_fencersAhead_27 : decode cX7_fencersAhead 27 = .ok (.invokevirtual 367, 3) := by decide +kernel
theorem dX7_fencersAhead_30 : decode cX7_fencersAhead 30 = .ok (.ifCond .eq 6, 3) := by decide +kernel
theorem dX7_fencersAhead_33 : decode cX7_fencersAhead 33 = .ok (.iinc 2 1, 3) := by decide +kernel
theorem dX7_fencersAhead_36 : decode cX7_fencersAhead 36 = .ok (.iinc 3 1, 3) := by decide +kernel
theorem dX7_fencersAhead_39 : decode cX7_fencersAhead 39 = .ok (.goto (-35), 3) := by decide +kernel
theorem dX7_fencersAhead_42 : decode cX7_fencersAhead 42 = .ok (.iload_n 2, 1) := by decide +kernel
theorem dX7_fencersAhead_43 : decode cX7_fencersAhead 43 = .ok (.ireturn, 1) := by decide +kernel
theorem dX8_init_0 : decode cX8_init 0 = .ok (.aload_n 0, 1) := by decide +kernel
theorem dX8_init_1 : decode cX8_init 1 = .ok (.invokespecial 1, 3) := by decide +kernel
theorem dX8_init_4 : decode cX8_init 4 = .ok (.aload_n 0, 1) := by decide +kernel
theorem dX8_init_5 : decode cX8_init 5 = .ok (.bipush 24, 2) := by decide +kernel
theorem dX8_init_7 : decode cX8_init 7 = .ok (.newarray .int, 2) := by decide +kernel
theorem dX8_init_9 : decode cX8_init 9 = .ok (.putfield 7, 3) := by decide +kernel
theorem dX8_init_12 : decode cX8_init 12 = .ok (.aload_n 0, 1) := by decide +kernel
theorem dX8_init_13 : decode cX8_init 13 = .ok (.bipush 24, 2) := by decide +kernel
theorem dX8_init_15 : decode cX8_init 15 = .ok (.newarray .int, 2) := by decide +kernel
theorem dX8_init_17 : decode cX8_init 17 = .ok (.putfield 13, 3) := by decide +kernel
theorem dX8_init_20 : decode cX8_init 20 = .ok (.aload_n 0, 1) := by decide +kernel
theorem dX8_init_21 : decode cX8_init 21 = .ok (.bipush 24, 2) := by decide +kernel
theorem dX8_init_23 : decode cX8_init 23 = .ok (.newarray .boolean, 2) := by decide +kernel
theorem dX8_init_25 : decode cX8_init 25 = .ok (.putfield 16, 3) := by decide +kernel
theorem dX8_init_28 : decode cX8_init 28 = .ok (.aload_n 0, 1) := by decide +kernel
theorem dX8_init_29 : decode cX8_init 29 = .ok (.bipush 66, 2) := by decide +kernel
theorem dX8_init_31 : decode cX8_init 31 = .ok (.newarray .int, 2) := by decide +kernel
theorem dX8_init_33 : decode cX8_init 33 = .ok (.putfield 20, 3) := by decide +kernel
theorem dX8_init_36 : decode cX8_init 36 = .ok (.aload_n 0, 1) := by decide +kernel
theorem dX8_init_37 : decode cX8_init 37 = .ok (.bipush 66, 2) := by decide +kernel
theorem dX8_init_39 : decode cX8_init 39 = .ok (.newarray .int, 2) := by decide +kernel
theorem dX8_init_41 : decode cX8_init 41 = .ok (.putfield 23, 3) := by decide +kernel
theorem dX8_init_44 : decode cX8_init 44 = .ok (.aload_n 0, 1) := by decide +kernel
theorem dX8_init_45 : decode cX8_init 45 = .ok (.bipush 82, 2) := by decide +kernel
theorem dX8_init_47 : decode cX8_init 47 = .ok (.newarray .int, 2) := by decide +kernel
theorem dX8_init_49 : decode cX8_init 49 = .ok (.putfield 26, 3) := by decide +kernel
theorem dX8_init_52 : decode cX8_init 52 = .ok (.aload_n 0, 1) := by decide +kernel
theorem dX8_init_53 : decode cX8_init 53 = .ok (.sipush 164, 3) := by decide +kernel
theorem dX8_init_56 : decode cX8_init 56 = .ok (.newarray .int, 2) := by decide +kernel
theorem dX8_init_58 : decode cX8_init 58 = .ok (.putfield 29, 3) := by decide +kernel
theorem dX8_init_61 : decode cX8_init 61 = .ok (.aload_n 0, 1) := by decide +kernel
theorem dX8_init_62 : decode cX8_init 62 = .ok (.sipush 984, 3) := by decide +kernel
theorem dX8_init_65 : decode cX8_init 65 = .ok (.newarray .int, 2) := by decide +kernel
theorem dX8_init_67 : decode cX8_init 67 = .ok (.putfield 32, 3) := by decide +kernel
theorem dX8_init_70 : decode cX8_init 70 = .ok (.aload_n 0, 1) := by decide +kernel
theorem dX8_init_71 : decode cX8_init 71 = .ok (.sipush 1968, 3) := by decide +kernel
theorem dX8_init_74 : decode cX8_init 74 = .ok (.newarray .int, 2) := by decide +kernel
theorem dX8_init_76 : decode cX8_init 76 = .ok (.putfield 35, 3) := by decide +kernel
theorem dX8_init_79 : decode cX8_init 79 = .ok (.aload_n 0, 1) := by decide +kernel
theorem dX8_init_80 : decode cX8_init 80 = .ok (.sipush 984, 3) := by decide +kernel
theorem dX8_init_83 : decode cX8_init 83 = .ok (.newarray .int, 2) := by decide +kernel
theorem dX8_init_85 : decode cX8_init 85 = .ok (.putfield 38, 3) := by decide +kernel
theorem dX8_init_88 : decode cX8_init 88 = .ok (.aload_n 0, 1) := by decide +kernel
theorem dX8_init_89 : decode cX8_init 89 = .ok (.sipush 7872, 3) := by decide +kernel
theorem dX8_init_92 : decode cX8_init 92 = .ok (.newarray .int, 2) := by decide +kernel
theorem dX8_init_94 : decode cX8_init 94 = .ok (.putfield 41, 3) := by decide +kernel
theorem dX8_init_97 : decode cX8_init 97 = .ok (.aload_n 0, 1) := by decide +kernel
theorem dX8_init_98 : decode cX8_init 98 = .ok (.sipush 7872, 3) := by decide +kernel
theorem dX8_init_101 : decode cX8_init 101 = .ok (.newarray .int, 2) := by decide +kernel
theorem dX8_init_103 : decode cX8_init 103 = .ok (.putfield 44, 3) := by decide +kernel
theorem dX8_init_106 : decode cX8_init 106 = .ok (.aload_n 0, 1) := by decide +kernel
theorem dX8_init_107 : decode cX8_init 107 = .ok (.iconst (-1), 1) := by decide +kernel
theorem dX8_init_108 : decode cX8_init 108 = .ok (.putfield 47, 3) := by decide +kernel
theorem dX8_init_111 : decode cX8_init 111 = .ok (.aload_n 0, 1) := by decide +kernel
theorem dX8_init_112 : decode cX8_init 112 = .ok (.iconst 2, 1) := by decide +kernel
theorem dX8_init_113 : decode cX8_init 113 = .ok (.newarray .int, 2) := by decide +kernel
theorem dX8_init_115 : decode cX8_init 115 = .ok (.putfield 51, 3) := by decide +kernel
theorem dX8_init_118 : decode cX8_init 118 = .ok (.aload_n 0, 1) := by decide +kernel
theorem dX8_init_119 : decode cX8_init 119 = .ok (.bipush 32, 2) := by decide +kernel
theorem dX8_init_121 : decode cX8_init 121 = .ok (.newarray .int, 2) := by decide +kernel
theorem dX8_init_123 : decode cX8_init 123 = .ok (.putfield 54, 3) := by decide +kernel
theorem dX8_init_126 : decode cX8_init 126 = .ok (.aload_n 0, 1) := by decide +kernel
theorem dX8_init_127 : decode cX8_init 127 = .ok (.bipush 32, 2) := by decide +kernel
theorem dX8_init_129 : decode cX8_init 129 = .ok (.newarray .boolean, 2) := by decide +kernel
theorem dX8_init_131 : decode cX8_init 131 = .ok (.putfield 57, 3) := by decide +kernel
theorem dX8_init_134 : decode cX8_init 134 = .ok (.aload_n 0, 1) := by decide +kernel
theorem dX8_init_135 : decode cX8_init 135 = .ok (.bipush 16, 2) := by decide +kernel
theorem dX8_init_137 : decode cX8_init 137 = .ok (.newarray .int, 2) := by decide +kernel
theorem dX8_init_139 : decode cX8_init 139 = .ok (.putfield 60, 3) := by decide +kernel
theorem dX8_init_142 : decode cX8_init 142 = .ok (.aload_n 0, 1) := by decide +kernel
theorem dX8_init_143 : decode cX8_init 143 = .ok (.bipush 12, 2) := by decide +kernel
theorem dX8_init_145 : decode cX8_init 145 = .ok (.newarray .int, 2) := by decide +kernel
theorem dX8_init_147 : decode cX8_init 147 = .ok (.putfield 63, 3) := by decide +kernel
theorem dX8_init_150 : decode cX8_init 150 = .ok (.aload_n 0, 1) := by decide +kernel
theorem dX8_init_151 : decode cX8_init 151 = .ok (.bipush 12, 2) := by decide +kernel
theorem dX8_init_153 : decode cX8_init 153 = .ok (.newarray .int, 2) := by decide +kernel
theorem dX8_init_155 : decode cX8_init 155 = .ok (.putfield 66, 3) := by decide +kernel
theorem dX8_init_158 : decode cX8_init 158 = .ok (.aload_n 0, 1) := by decide +kernel
theorem dX8_init_159 : decode cX8_init 159 = .ok (.bipush 12, 2) := by decide +kernel
theorem dX8_init_161 : decode cX8_init 161 = .ok (.newarray .int, 2) := by decide +kernel
theorem dX8_init_163 : decode cX8_init 163 = .ok (.putfield 69, 3) := by decide +kernel
theorem dX8_init_166 : decode cX8_init 166 = .ok (.aload_n 0, 1) := by decide +kernel
theorem dX8_init_167 : decode cX8_init 167 = .ok (.bipush 12, 2) := by decide +kernel
theorem dX8_init_169 : decode cX8_init 169 = .ok (.newarray .int, 2) := by decide +kernel
theorem dX8_init_171 : decode cX8_init 171 = .ok (.putfield 72, 3) := by decide +kernel
theorem dX8_init_174 : decode cX8_init 174 = .ok (.aload_n 0, 1) := by decide +kernel
theorem dX8_init_175 : decode cX8_init 175 = .ok (.iload_n 1, 1) := by decide +kernel
theorem dX8_init_176 : decode cX8_init 176 = .ok (.ifCond .eq 7, 3) := by decide +kernel
theorem dX8_init_179 : decode cX8_init 179 = .ok (.iconst 1, 1) := by decide +kernel
theorem dX8_init_180 : decode cX8_init 180 = .ok (.goto 4, 3) := by decide +kernel
theorem dX8_init_183 : decode cX8_init 183 = .ok (.iconst 0, 1) := by decide +kernel
theorem dX8_init_184 : decode cX8_init 184 = .ok (.putfield 75, 3) := by decide +kernel
theorem dX8_init_187 : decode cX8_init 187 = .ok (.return_, 1) := by decide +kernel
theorem dX8_thrown_0 : decode cX8_thrown 0 = .ok (.aload_n 0, 1) := by decide +kernel
theorem dX8_thrown_1 : decode cX8_thrown 1 = .ok (.getfield 79, 3) := by decide +kernel
theorem dX8_thrown_4 : decode cX8_thrown 4 = .ok (.ireturn, 1) := by decide +kernel
theorem dX8_in_0 : decode cX8_in 0 = .ok (.iload_n 0, 1) := by decide +kernel
theorem dX8_in_1 : decode cX8_in 1 = .ok (.iload_n 1, 1) := by decide +kernel
theorem dX8_in_2 : decode cX8_in 2 = .ok (.if_icmp .lt 12, 3) := by decide +kernel
theorem dX8_in_5 : decode cX8_in 5 = .ok (.iload_n 0, 1) := by decide +kernel
theorem dX8_in_6 : decode cX8_in 6 = .ok (.iload_n 2, 1) := by decide +kernel
theorem dX8_in_7 : decode cX8_in 7 = .ok (.if_icmp .gt 7, 3) := by decide +kernel
theorem dX8_in_10 : decode cX8_in 10 = .ok (.iconst 1, 1) := by decide +kernel
theorem dX8_in_11 : decode cX8_in 11 = .ok (.goto 4, 3) := by decide +kernel
theorem dX8_in_14 : decode cX8_in 14 = .ok (.iconst 0, 1) := by decide +kernel
theorem dX8_in_15 : decode cX8_in 15 = .ok (.ireturn, 1) := by decide +kernel
theorem dX8_goes_0 : decode cX8_goes 0 = .ok (.aload_n 0, 1) := by decide +kernel
theorem dX8_goes_1 : decode cX8_goes 1 = .ok (.iload_n 1, 1) := by decide +kernel
theorem dX8_goes_2 : decode cX8_goes 2 = .ok (.ifCond .ne 7, 3) := by decide +kernel
theorem dX8_goes_5 : decode cX8_goes 5 = .ok (.iconst 1, 1) := by decide +kernel
theorem dX8_goes_6 : decode cX8_goes 6 = .ok (.goto 20, 3) := by decide +kernel
theorem dX8_goes_9 : decode cX8_goes 9 = .ok (.iload_n 2, 1) := by decide +kernel
theorem dX8_goes_10 : decode cX8_goes 10 = .ok (.ifCond .ne 7, 3) := by decide +kernel
theorem dX8_goes_13 : decode cX8_goes 13 = .ok (.iconst 2, 1) := by decide +kernel
theorem dX8_goes_14 : decode cX8_goes 14 = .ok (.goto 12, 3) := by decide +kernel
theorem dX8_goes_17 : decode cX8_goes 17 = .ok (.iload_n 3, 1) := by decide +kernel
theorem dX8_goes_18 : decode cX8_goes 18 = .ok (.ifCond .eq 7, 3) := by decide +kernel
theorem dX8_goes_21 : decode cX8_goes 21 = .ok (.iconst 0, 1) := by decide +kernel
theorem dX8_goes_22 : decode cX8_goes 22 = .ok (.goto 4, 3) := by decide +kernel
theorem dX8_goes_25 : decode cX8_goes 25 = .ok (.iconst 3, 1) := by decide +kernel
theorem dX8_goes_26 : decode cX8_goes 26 = .ok (.putfield 79, 3) := by decide +kernel
theorem dX8_goes_29 : decode cX8_goes 29 = .ok (.aload_n 0, 1) := by decide +kernel
theorem dX8_goes_30 : decode cX8_goes 30 = .ok (.getfield 79, 3) := by decide +kernel
theorem dX8_goes_33 : decode cX8_goes 33 = .ok (.ifCond .ne 7, 3) := by decide +kernel
theorem dX8_goes_36 : decode cX8_goes 36 = .ok (.iconst 1, 1) := by decide +kernel
theorem dX8_goes_37 : decode cX8_goes 37 = .ok (.goto 4, 3) := by decide +kernel
theorem dX8_goes_40 : decode cX8_goes 40 = .ok (.iconst 0, 1) := by decide +kernel
theorem dX8_goes_41 : decode cX8_goes 41 = .ok (.ireturn, 1) := by decide +kernel
theorem dX8_isFencer_0 : decode cX8_isFencer 0 = .ok (.iload_n 1, 1) := by decide +kernel
theorem dX8_isFencer_1 : decode cX8_isFencer 1 = .ok (.iconst 0, 1) := by decide +kernel
theorem dX8_isFencer_2 : decode cX8_isFencer 2 = .ok (.aload_n 0, 1) := by decide +kernel
theorem dX8_isFencer_3 : decode cX8_isFencer 3 = .ok (.getfield 82, 3) := by decide +kernel
theorem dX8_isFencer_6 : decode cX8_isFencer 6 = .ok (.iconst 1, 1) := by decide +kernel
theorem dX8_isFencer_7 : decode cX8_isFencer 7 = .ok (.isub, 1) := by decide +kernel
theorem dX8_isFencer_8 : decode cX8_isFencer 8 = .ok (.invokestatic 85, 3) := by decide +kernel
theorem dX8_isFencer_11 : decode cX8_isFencer 11 = .ok (.ireturn, 1) := by decide +kernel
theorem dX8_isWeapon_0 : decode cX8_isWeapon 0 = .ok (.iload_n 1, 1) := by decide +kernel
theorem dX8_isWeapon_1 : decode cX8_isWeapon 1 = .ok (.iconst 0, 1) := by decide +kernel
theorem dX8_isWeapon_2 : decode cX8_isWeapon 2 = .ok (.aload_n 0, 1) := by decide +kernel
theorem dX8_isWeapon_3 : decode cX8_isWeapon 3 = .ok (.getfield 89, 3) := by decide +kernel
theorem dX8_isWeapon_6 : decode cX8_isWeapon 6 = .ok (.iconst 1, 1) := by decide +kernel
theorem dX8_isWeapon_7 : decode cX8_isWeapon 7 = .ok (.isub, 1) := by decide +kernel
theorem dX8_isWeapon_8 : decode cX8_isWeapon 8 = .ok (.invokestatic 85, 3) := by decide +kernel
theorem dX8_isWeapon_11 : decode cX8_isWeapon 11 = .ok (.ireturn, 1) := by decide +kernel
theorem dX8_isSide_0 : decode cX8_isSide 0 = .ok (.iload_n 0, 1) := by decide +kernel
theorem dX8_isSide_1 : decode cX8_isSide 1 = .ok (.iconst 0, 1) := by decide +kernel
theorem dX8_isSide_2 : decode cX8_isSide 2 = .ok (.iconst 1, 1) := by decide +kernel
theorem dX8_isSide_3 : decode cX8_isSide 3 = .ok (.invokestatic 85, 3) := by decide +kernel
theorem dX8_isSide_6 : decode cX8_isSide 6 = .ok (.ireturn, 1) := by decide +kernel
theorem dX8_isBout_0 : decode cX8_isBout 0 = .ok (.iload_n 1, 1) := by decide +kernel
theorem dX8_isBout_1 : decode cX8_isBout 1 = .ok (.iconst 0, 1) := by decide +kernel
theorem dX8_isBout_2 : decode cX8_isBout 2 = .ok (.aload_n 0, 1) := by decide +kernel
theorem dX8_isBout_3 : decode cX8_isBout 3 = .ok (.getfield 92, 3) := by decide +kernel
theorem dX8_isBout_6 : decode cX8_isBout 6 = .ok (.iconst 1, 1) := by decide +kernel
theorem dX8_isBout_7 : decode cX8_isBout 7 = .ok (.isub, 1) := by decide +kernel
theorem dX8_isBout_8 : decode cX8_isBout 8 = .ok (.invokestatic 85, 3) := by decide +kernel
theorem dX8_isBout_11 : decode cX8_isBout 11 = .ok (.ifCond .ne 26, 3) := by decide +kernel
theorem dX8_isBout_14 : decode cX8_isBout 14 = .ok (.aload_n 0, 1) := by decide +kernel
theorem dX8_isBout_15 : decode cX8_isBout 15 = .ok (.getfield 95, 3) := by decide +kernel
theorem dX8_isBout_18 : decode cX8_isBout 18 = .ok (.ifCond .le 23, 3) := by decide +kernel
theorem dX8_isBout_21 : decode cX8_isBout 21 = .ok (.iload_n 1, 1) := by decide +kernel
theorem dX8_isBout_22 : decode cX8_isBout 22 = .ok (.bipush 101, 2) := by decide +kernel
theorem dX8_isBout_24 : decode cX8_isBout 24 = .ok (.bipush 99, 2) := by decide +kernel
theorem dX8_isBout_26 : decode cX8_isBout 26 = .ok (.aload_n 0, 1) := by decide +kernel
theorem dX8_isBout_27 : decode cX8_isBout 27 = .ok (.getfield 95, 3) := by decide +kernel
theorem dX8_isBout_30 : decode cX8_isBout 30 = .ok (.iadd, 1) := by decide +kernel
theorem dX8_isBout_31 : decode cX8_isBout 31 = .ok (.invokestatic 85, 3) := by decide +kernel
theorem dX8_isBout_34 : decode cX8_isBout 34 = .ok (.ifCond .eq 7, 3) := by decide +kernel
theorem dX8_isBout_37 : decode cX8_isBout 37 = .ok (.iconst 1, 1) := by decide +kernel
theorem dX8_isBout_38 : decode cX8_isBout 38 = .ok (.goto 4, 3) := by decide +kernel
theorem dX8_isBout_41 : decode cX8_isBout 41 = .ok (.iconst 0, 1) := by decide +kernel
theorem dX8_isBout_42 : decode cX8_isBout 42 = .ok (.ireturn, 1) := by decide +kernel
theorem dX8_slotOf_0 : decode cX8_slotOf 0 = .ok (.iload_n 0, 1) := by decide +kernel
theorem dX8_slotOf_1 : decode cX8_slotOf 1 = .ok (.bipush 100, 2) := by decide +kernel
theorem dX8_slotOf_3 : decode cX8_slotOf 3 = .ok (.if_icmp .lt 13, 3) := by decide +kernel
theorem dX8_slotOf_6 : decode cX8_slotOf 6 = .ok (.bipush 66, 2) := by decide +kernel
theorem dX8_slotOf_8 : decode cX8_slotOf 8 = .ok (.iload_n 0, 1) := by decide +kernel
theorem dX8_slotOf_9 : decode cX8_slotOf 9 = .ok (.iadd, 1) := by decide +kernel
theorem dX8_slotOf_10 : decode cX8_slotOf 10 = .ok (.bipush 100, 2) := by decide +kernel
theorem dX8_slotOf_12 : decode cX8_slotOf 12 = .ok (.isub, 1) := by decide +kernel
theorem dX8_slotOf_13 : decode cX8_slotOf 13 = .ok (.goto 4, 3) := by decide +kernel
theorem dX8_slotOf_16 : decode cX8_slotOf 16 = .ok (.iload_n 0, 1) := by decide +kernel
theorem dX8_slotOf_17 : decode cX8_slotOf 17 = .ok (.ireturn, 1) := by decide +kernel
theorem dX8_fencer_0 : decode cX8_fencer 0 = .ok (.aload_n 0, 1) := by decide +kernel
theorem dX8_fencer_1 : decode cX8_fencer 1 = .ok (.aload_n 0, 1) := by decide +kernel
theorem dX8_fencer_2 : decode cX8_fencer 2 = .ok (.getfield 82, 3) := by decide +kernel
theorem dX8_fencer_5 : decode cX8_fencer 5 = .ok (.bipush 12, 2) := by decide +kernel
theorem dX8_fencer_7 : decode cX8_fencer 7 = .ok (.if_icmp .ge 14, 3) := by decide +kernel
theorem dX8_fencer_10 : decode cX8_fencer 10 = .ok (.aload_n 0, 1) := by decide +kernel
theorem dX8_fencer_11 : decode cX8_fencer 11 = .ok (.getfield 98, 3) := by decide +kernel
theorem dX8_fencer_14 : decode cX8_fencer 14 = .ok (.ifCond .ne 7, 3) := by decide +kernel
theorem dX8_fencer_17 : decode cX8_fencer 17 = .ok (.iconst 1, 1) := by decide +kernel
theorem dX8_fencer_18 : decode cX8_fencer 18 = .ok (.goto 4, 3) := by decide +kernel
theorem dX8_fencer_21 : decode cX8_fencer 21 = .ok (.iconst 0, 1) := by decide +kernel
theorem dX8_fencer_22 : decode cX8_fencer 22 = .ok (.iconst 1, 1) := by decide +kernel
theorem dX8_fencer_23 : decode cX8_fencer 23 = .ok (.iconst 1, 1) := by decide +kernel
theorem dX8_fencer_24 : decode cX8_fencer 24 = .ok (.invokevirtual 101, 3) := by decide +kernel
theorem dX8_fencer_27 : decode cX8_fencer 27 = .ok (.ifCond .ne 5, 3) := by decide +kernel
theorem dX8_fencer_30 : decode cX8_fencer 30 = .ok (.iconst 0, 1) := by decide +kernel
theorem dX8_fencer_31 : decode cX8_fencer 31 = .ok (.ireturn, 1) := by decide +kernel
theorem dX8_fencer_32 : decode cX8_fencer 32 = .ok (.aload_n 0, 1) := by decide +kernel
theorem dX8_fencer_33 : decode cX8_fencer 33 = .ok (.dup, 1) := by decide +kernel
theorem dX8_fencer_34 : decode cX8_fencer 34 = .ok (.getfield 82, 3) := by decide +kernel
theorem dX8_fencer_37 : decode cX8_fencer 37 = .ok (.iconst 1, 1) := by decide +kernel
theorem dX8_fencer_38 : decode cX8_fencer 38 = .ok (.iadd, 1) := by decide +kernel
theorem dX8_fencer_39 : decode cX8_fencer 39 = .ok (.putfield 82, 3) := by decide +kernel
theorem dX8_fencer_42 : decode cX8_fencer 42 = .ok (.aload_n 0, 1) := by decide +kernel
theorem dX8_fencer_43 : decode cX8_fencer 43 = .ok (.getfield 82, 3) := by decide +kernel
theorem dX8_fencer_46 : decode cX8_fencer 46 = .ok (.iconst 1, 1) := by decide +kernel
theorem dX8_fencer_47 : decode cX8_fencer 47 = .ok (.isub, 1) := by decide +kernel
theorem dX8_fencer_48 : decode cX8_fencer 48 = .ok (.ireturn, 1) := by decide +kernel
theorem dX8_weapon_0 : decode cX8_weapon 0 = .ok (.aload_n 0, 1) := by decide +kernel
theorem dX8_weapon_1 : decode cX8_weapon 1 = .ok (.aload_n 0, 1) := by decide +kernel
theorem dX8_weapon_2 : decode cX8_weapon 2 = .ok (.iload_n 1, 1) := by decide +kernel
theorem dX8_weapon_3 : decode cX8_weapon 3 = .ok (.invokevirtual 105, 3) := by decide +kernel
theorem dX8_weapon_6 : decode cX8_weapon 6 = .ok (.aload_n 0, 1) := by decide +kernel
theorem dX8_weapon_7 : decode cX8_weapon 7 = .ok (.getfield 89, 3) := by decide +kernel
theorem dX8_weapon_10 : decode cX8_weapon 10 = .ok (.bipush 24, 2) := by decide +kernel
theorem dX8_weapon_12 : decode cX8_weapon 12 = .ok (.if_icmp .ge 7, 3) := by decide +kernel
theorem dX8_weapon_15 : decode cX8_weapon 15 = .ok (.iconst 1, 1) := by decide +kernel
theorem dX8_weapon_16 : decode cX8_weapon 16 = .ok (.goto 4, 3) := by decide +kernel
theorem dX8_weapon_19 : decode cX8_weapon 19 = .ok (.iconst 0, 1) := by decide +kernel
theorem dX8_weapon_20 : decode cX8_weapon 20 = .ok (.iconst 1, 1) := by decide +kernel
theorem dX8_weapon_21 : decode cX8_weapon 21 = .ok (.invokevirtual 101, 3) := by decide +kernel
theorem dX8_weapon_24 : decode cX8_weapon 24 = .ok (.ifCond .ne 5, 3) := by decide +kernel
theorem dX8_weapon_27 : decode cX8_weapon 27 = .ok (.iconst 0, 1) := by decide +kernel
theorem dX8_weapon_28 : decode cX8_weapon 28 = .ok (.ireturn, 1) := by decide +kernel
theorem dX8_weapon_29 : decode cX8_weapon 29 = .ok (.aload_n 0, 1) := by decide +kernel
theorem dX8_weapon_30 : decode cX8_weapon 30 = .ok (.getfield 7, 3) := by decide +kernel
theorem dX8_weapon_33 : decode cX8_weapon 33 = .ok (.aload_n 0, 1) := by decide +kernel
theorem dX8_weapon_34 : decode cX8_weapon 34 = .ok (.getfield 89, 3) := by decide +kernel
theorem dX8_weapon_37 : decode cX8_weapon 37 = .ok (.iload_n 1, 1) := by decide +kernel
theorem dX8_weapon_38 : decode cX8_weapon 38 = .ok (.iastore, 1) := by decide +kernel
theorem dX8_weapon_39 : decode cX8_weapon 39 = .ok (.aload_n 0, 1) := by decide +kernel
theorem dX8_weapon_40 : decode cX8_weapon 40 = .ok (.getfield 13, 3) := by decide +kernel
theorem dX8_weapon_43 : decode cX8_weapon 43 = .ok (.aload_n 0, 1) := by decide +kernel
theorem dX8_weapon_44 : decode cX8_weapon 44 = .ok (.getfield 89, 3) := by decide +kernel
theorem dX8_weapon_47 : decode cX8_weapon 47 = .ok (.iconst 0, 1) := by decide +kernel
theorem dX8_weapon_48 : decode cX8_weapon 48 = .ok (.iastore, 1) := by decide +kernel
theorem dX8_weapon_49 : decode cX8_weapon 49 = .ok (.aload_n 0, 1) := by decide +kernel
theorem dX8_weapon_50 : decode cX8_weapon 50 = .ok (.dup, 1) := by decide +kernel
theorem dX8_weapon_51 : decode cX8_weapon 51 = .ok (.getfield 89, 3) := by decide +kernel
theorem dX8_weapon_54 : decode cX8_weapon 54 = .ok (.iconst 1, 1) := by decide +kernel
theorem dX8_weapon_55 : decode cX8_weapon 55 = .ok (.iadd, 1) := by decide +kernel
theorem dX8_weapon_56 : decode cX8_weapon 56 = .ok (.putfield 89, 3) := by decide +kernel
theorem dX8_weapon_59 : decode cX8_weapon 59 = .ok (.aload_n 0, 1) := by decide +kernel
theorem dX8_weapon_60 : decode cX8_weapon 60 = .ok (.getfield 89, 3) := by decide +kernel
theorem dX8_weapon_63 : decode cX8_weapon 63 = .ok (.iconst 1, 1) := by decide +kernel
theorem dX8_weapon_64 : decode cX8_weapon 64 = .ok (.isub, 1) := by decide +kernel
theorem dX8_weapon_65 : decode cX8_weapon 65 = .ok (.ireturn, 1) := by decide +kernel
theorem dX8_test_0 : decode cX8_test 0 = .ok (.aload_n 0, 1) := by decide +kernel
theorem dX8_test_1 : decode cX8_test 1 = .ok (.iload_n 1, 1) := by decide +kernel
theorem dX8_test_2 : decode cX8_test 2 = .ok (.invokevirtual 109, 3) := by decide +kernel
theorem dX8_test_5 : decode cX8_test 5 = .ok (.istore 4, 2) := by decide +kernel
theorem dX8_test_7 : decode cX8_test 7 = .ok (.aload_n 0, 1) := by decide +kernel
theorem dX8_test_8 : decode cX8_test 8 = .ok (.iload 4, 2) := by decide +kernel
theorem dX8_test_10 : decode cX8_test 10 = .ok (.iload_n 2, 1) := by decide +kernel
theorem dX8_test_11 : decode cX8_test 11 = .ok (.iconst 0, 1) := by decide +kernel
theorem dX8_test_12 : decode cX8_test 12 = .ok (.sipush 2000, 3) := by decide +kernel
theorem dX8_test_15 : decode cX8_test 15 = .ok (.invokestatic 85, 3) := by decide +kernel
theorem dX8_test_18 : decode cX8_test 18 = .ok (.ifCond .eq 17, 3) := by decide +kernel
theorem dX8_test_21 : decode cX8_test 21 = .ok (.iload_n 3, 1) := by decide +kernel
theorem dX8_test_22 : decode cX8_test 22 = .ok (.iconst 0, 1) := by decide +kernel
theorem dX8_test_23 : decode cX8_test 23 = .ok (.bipush 100, 2) := by decide +kernel
theorem dX8_test_25 : decode cX8_test 25 = .ok (.invokestatic 85, 3) := by decide +kernel
theorem dX8_test_28 : decode cX8_test 28 = .ok (.ifCond .eq 7, 3) := by decide +kernel
theorem dX8_test_31 : decode cX8_test 31 = .ok (.iconst 1, 1) := by decide +kernel
theorem dX8_test_32 : decode cX8_test 32 = .ok (.goto 4, 3) := by decide +kernel
theorem dX8_test_35 : decode cX8_test 35 = .ok (.iconst 0, 1) := by decide +kernel
theorem dX8_test_36 : decode cX8_test 36 = .ok (.iload 4, 2) := by decide +kernel
theorem dX8_test_38 : decode cX8_test 38 = .ok (.ifCond .eq 24, 3) := by decide +kernel
theorem dX8_test_41 : decode cX8_test 41 = .ok (.aload_n 0, 1) := by decide +kernel
theorem dX8_test_42 : decode cX8_test 42 = .ok (.getfield 13, 3) := by decide +kernel
theorem dX8_test_45 : decode cX8_test 45 = .ok (.iload_n 1, 1) := by decide +kernel
theorem dX8_test_46 : decode cX8_test 46 = .ok (.iaload, 1) := by decide +kernel
theorem dX8_test_47 : decode cX8_test 47 = .ok (.iconst 2, 1) := by decide +kernel
theorem dX8_test_48 : decode cX8_test 48 = .ok (.if_icmp .eq 14, 3) := by decide +kernel
theorem dX8_test_51 : decode cX8_test 51 = .ok (.aload_n 0, 1) := by decide +kernel
theorem dX8_test_52 : decode cX8_test 52 = .ok (.getfield 112, 3) := by decide +kernel
theorem dX8_test_55 : decode cX8_test 55 = .ok (.ifCond .ne 7, 3) := by decide +kernel
theorem dX8_test_58 : decode cX8_test 58 = .ok (.iconst 1, 1) := by decide +kernel
theorem dX8_test_59 : decode cX8_test 59 = .ok (.goto 4, 3) := by decide +kernel
theorem dX8_test_62 : decode cX8_test 62 = .ok (.iconst 0, 1) := by decide +kernel
theorem dX8_test_63 : decode cX8_test 63 = .ok (.invokevirtual 101, 3) := by decide +kernel
theorem dX8_test_66 : decode cX8_test 66 = .ok (.ifCond .ne 5, 3) := by decide +kernel
theorem dX8_test_69 : decode cX8_test 69 = .ok (.iconst 0, 1) := by decide +kernel
theorem dX8_test_70 : decode cX8_test 70 = .ok (.ireturn, 1) := by decide +kernel
theorem dX8_test_71 : decode cX8_test 71 = .ok (.iload_n 2, 1) := by decide +kernel
theorem dX8_test_72 : decode cX8_test 72 = .ok (.sipush 500, 3) := by decide +kernel
theorem dX8_test_75 : decode cX8_test 75 = .ok (.sipush 770, 3) := by decide +kernel
theorem dX8_test_78 : decode cX8_test 78 = .ok (.invokestatic 85, 3) := by decide +kernel
theorem dX8_test_81 : decode cX8_test 81 = .ok (.ifCond .eq 13, 3) := by decide +kernel
theorem dX8_test_84 : decode cX8_test 84 = .ok (.iload_n 3, 1) := by decide +kernel
theorem dX8_test_85 : decode cX8_test 85 = .ok (.bipush 15, 2) := by decide +kernel
theorem dX8_test_87 : decode cX8_test 87 = .ok (.if_icmp .gt 7, 3) := by decide +kernel
theorem dX8_test_90 : decode cX8_test 90 = .ok (.iconst 1, 1) := by decide +kernel
theorem dX8_test_91 : decode cX8_test 91 = .ok (.goto 4, 3) := by decide +kernel
theorem dX8_test_94 : decode cX8_test 94 = .ok (.iconst 0, 1) := by decide +kernel
theorem dX8_test_95 : decode cX8_test 95 = .ok (.istore 5, 2) := by decide +kernel
theorem dX8_test_97 : decode cX8_test 97 = .ok (.aload_n 0, 1) := by decide +kernel
theorem dX8_test_98 : decode cX8_test 98 = .ok (.getfield 13, 3) := by decide +kernel
theorem dX8_test_101 : decode cX8_test 101 = .ok (.iload_n 1, 1) := by decide +kernel
theorem dX8_test_102 : decode cX8_test 102 = .ok (.iload 5, 2) := by decide +kernel
theorem dX8_test_104 : decode cX8_test 104 = .ok (.ifCond .eq 7, 3) := by decide +kernel
theorem dX8_test_107 : decode cX8_test 107 = .ok (.iconst 1, 1) := by decide +kernel
theorem dX8_test_108 : decode cX8_test 108 = .ok (.goto 4, 3) := by decide +kernel
theorem dX8_test_111 : decode cX8_test 111 = .ok (.iconst 2, 1) := by decide +kernel
theorem dX8_test_112 : decode cX8_test 112 = .ok (.iastore, 1) := by decide +kernel
theorem dX8_test_113 : decode cX8_test 113 = .ok (.aload_n 0, 1) := by decide +kernel
theorem dX8_test_114 : decode cX8_test 114 = .ok (.getfield 16, 3) := by decide +kernel
theorem dX8_test_117 : decode cX8_test 117 = .ok (.iload_n 1, 1) := by decide +kernel
theorem dX8_test_118 : decode cX8_test 118 = .ok (.iload 5, 2) := by decide +kernel
theorem dX8_test_120 : decode cX8_test 120 = .ok (.ifCond .ne 14, 3) := by decide +kernel
theorem dX8_test_123 : decode cX8_test 123 = .ok (.aload_n 0, 1) := by decide +kernel
theorem dX8_test_124 : decode cX8_test 124 = .ok (.getfield 95, 3) := by decide +kernel
theorem dX8_test_127 : decode cX8_test 127 = .ok (.ifCond .ne 7, 3) := by decide +kernel
theorem dX8_test_130 : decode cX8_test 130 = .ok (.iconst 1, 1) := by decide +kernel
theorem dX8_test_131 : decode cX8_test 131 = .ok (.goto 4, 3) := by decide +kernel
theorem dX8_test_134 : decode cX8_test 134 = .ok (.iconst 0, 1) := by decide +kernel
theorem dX8_test_135 : decode cX8_test 135 = .ok (.bastore, 1) := by decide +kernel
theorem dX8_test_136 : decode cX8_test 136 = .ok (.aload_n 0, 1) := by decide +kernel
theorem dX8_test_137 : decode cX8_test 137 = .ok (.invokevirtual 115, 3) := by decide +kernel
theorem dX8_test_140 : decode cX8_test 140 = .ok (.iload 5, 2) := by decide +kernel
theorem dX8_test_142 : decode cX8_test 142 = .ok (.ireturn, 1) := by decide +kernel
theorem dX8_fencers_0 : decode cX8_fencers 0 = .ok (.aload_n 0, 1) := by decide +kernel
theorem dX8_fencers_1 : decode cX8_fencers 1 = .ok (.iconst 0, 1) := by decide +kernel
theorem dX8_fencers_2 : decode cX8_fencers 2 = .ok (.putfield 79, 3) := by decide +kernel
theorem dX8_fencers_5 : decode cX8_fencers 5 = .ok (.aload_n 0, 1) := by decide +kernel
theorem dX8_fencers_6 : decode cX8_fencers 6 = .ok (.getfield 82, 3) := by decide +kernel
theorem dX8_fencers_9 : decode cX8_fencers 9 = .ok (.ireturn, 1) := by decide +kernel
theorem dX8_mark_0 : decode cX8_mark 0 = .ok (.aload_n 0, 1) := by decide +kernel
theorem dX8_mark_1 : decode cX8_mark 1 = .ok (.aload_n 0, 1) := by decide +kernel
theorem dX8_mark_2 : decode cX8_mark 2 = .ok (.iload_n 1, 1) := by decide +kernel
theorem dX8_mark_3 : decode cX8_mark 3 = .ok (.invokevirtual 109, 3) := by decide +kernel
theorem dX8_mark_6 : decode cX8_mark 6 = .ok (.iconst 1, 1) := by decide +kernel
theorem dX8_mark_7 : decode cX8_mark 7 = .ok (.iconst 1, 1) := by decide +kernel
theorem dX8_mark_8 : decode cX8_mark 8 = .ok (.invokevirtual 101, 3) := by decide +kernel
theorem dX8_mark_11 : decode cX8_mark 11 = .ok (.ifCond .eq 12, 3) := by decide +kernel
theorem dX8_mark_14 : decode cX8_mark 14 = .ok (.aload_n 0, 1) := by decide +kernel
theorem dX8_mark_15 : decode cX8_mark 15 = .ok (.getfield 13, 3) := by decide +kernel
theorem dX8_mark_18 : decode cX8_mark 18 = .ok (.iload_n 1, 1) := by decide +kernel
theorem dX8_mark_19 : decode cX8_mark 19 = .ok (.iaload, 1) := by decide +kernel
theorem dX8_mark_20 : decode cX8_mark 20 = .ok (.goto 4, 3) := by decide +kernel
theorem dX8_mark_23 : decode cX8_mark 23 = .ok (.iconst 0, 1) := by decide +kernel
theorem dX8_mark_24 : decode cX8_mark 24 = .ok (.ireturn, 1) := by decide +kernel
theorem dX8_owner_0 : decode cX8_owner 0 = .ok (.aload_n 0, 1) := by decide +kernel
theorem dX8_owner_1 : decode cX8_owner 1 = .ok (.aload_n 0, 1) := by decide +kernel
theorem dX8_owner_2 : decode cX8_owner 2 = .ok (.iload_n 1, 1) := by decide +kernel
theorem dX8_owner_3 : decode cX8_owner 3 = .ok (.invokevirtual 109, 3) := by decide +kernel
theorem dX8_owner_6 : decode cX8_owner 6 = .ok (.iconst 1, 1) := by decide +kernel
theorem dX8_owner_7 : decode cX8_owner 7 = .ok (.iconst 1, 1) := by decide +kernel
theorem dX8_owner_8 : decode cX8_owner 8 = .ok (.invokevirtual 101, 3) := by decide +kernel
theorem dX8_owner_11 : decode cX8_owner 11 = .ok (.ifCond .eq 12, 3) := by decide +kernel
theorem dX8_owner_14 : decode cX8_owner 14 = .ok (.aload_n 0, 1) := by decide +kernel
theorem dX8_owner_15 : decode cX8_owner 15 = .ok (.getfield 7, 3) := by decide +kernel
theorem dX8_owner_18 : decode cX8_owner 18 = .ok (.iload_n 1, 1) := by decide +kernel
theorem dX8_owner_19 : decode cX8_owner 19 = .ok (.iaload, 1) := by decide +kernel
theorem dX8_owner_20 : decode cX8_owner 20 = .ok (.goto 4, 3) := by decide +kernel
theorem dX8_owner_23 : decode cX8_owner 23 = .ok (.iconst 0, 1) := by decide +kernel
theorem dX8_owner_24 : decode cX8_owner 24 = .ok (.ireturn, 1) := by decide +kernel
theorem dX8_counts_0 : decode cX8_counts 0 = .ok (.aload_n 0, 1) := by decide +kernel
theorem dX8_counts_1 : decode cX8_counts 1 = .ok (.getfield 41, 3) := by decide +kernel
theorem dX8_counts_4 : decode cX8_counts 4 = .ok (.iload_n 1, 1) := by decide +kernel
theorem dX8_counts_5 : decode cX8_counts 5 = .ok (.iaload, 1) := by decide +kernel
theorem dX8_counts_6 : decode cX8_counts 6 = .ok (.iconst 2, 1) := by decide +kernel
theorem dX8_counts_7 : decode cX8_counts 7 = .ok (.idiv, 1) := by decide +kernel
theorem dX8_counts_8 : decode cX8_counts 8 = .ok (.iload_n 2, 1) := by decide +kernel
theorem dX8_counts_9 : decode cX8_counts 9 = .ok (.if_icmp .ne 26, 3) := by decide +kernel
theorem dX8_counts_12 : decode cX8_counts 12 = .ok (.aload_n 0, 1) := by decide +kernel
theorem dX8_counts_13 : decode cX8_counts 13 = .ok (.getfield 75, 3) := by decide +kernel
theorem dX8_counts_16 : decode cX8_counts 16 = .ok (.ifCond .ne 15, 3) := by decide +kernel
theorem dX8_counts_19 : decode cX8_counts 19 = .ok (.aload_n 0, 1) := by decide +kernel
theorem dX8_counts_20 : decode cX8_counts 20 = .ok (.getfield 41, 3) := by decide +kernel
theorem dX8_counts_23 : decode cX8_counts 23 = .ok (.iload_n 1, 1) := by decide +kernel
theorem dX8_counts_24 : decode cX8_counts 24 = .ok (.iaload, 1) := by decide +kernel
theorem dX8_counts_25 : decode cX8_counts 25 = .ok (.iconst 2, 1) := by decide +kernel
theorem dX8_counts_26 : decode cX8_counts 26 = .ok (.irem, 1) := by decide +kernel
theorem dX8_counts_27 : decode cX8_counts 27 = .ok (.iconst 1, 1) := by decide +kernel
theorem dX8_counts_28 : decode cX8_counts 28 = .ok (.if_icmp .ne 7, 3) := by decide +kernel
theorem dX8_counts_31 : decode cX8_counts 31 = .ok (.iconst 1, 1) := by decide +kernel
theorem dX8_counts_32 : decode cX8_counts 32 = .ok (.goto 4, 3) := by decide +kernel
theorem dX8_counts_35 : decode cX8_counts 35 = .ok (.iconst 0, 1) := by decide +kernel
theorem dX8_counts_36 : decode cX8_counts 36 = .ok (.ireturn, 1) := by decide +kernel
theorem dX8_judged_0 : decode cX8_judged 0 = .ok (.bipush 8, 2) := by decide +kernel
theorem dX8_judged_2 : decode cX8_judged 2 = .ok (.iload_n 1, 1) := by decide +kernel
theorem dX8_judged_3 : decode cX8_judged 3 = .ok (.imul, 1) := by decide +kernel
theorem dX8_judged_4 : decode cX8_judged 4 = .ok (.istore_n 2, 1) := by decide +kernel
theorem dX8_judged_5 : decode cX8_judged 5 = .ok (.iload_n 2, 1) := by decide +kernel
theorem dX8_judged_6 : decode cX8_judged 6 = .ok (.aload_n 0, 1) := by decide +kernel
theorem dX8_judged_7 : decode cX8_judged 7 = .ok (.getfield 32, 3) := by decide +kernel
theorem dX8_judged_10 : decode cX8_judged 10 = .ok (.iload_n 1, 1) := by decide +kernel
theorem dX8_judged_11 : decode cX8_judged 11 = .ok (.iaload, 1) := by decide +kernel
theorem dX8_judged_12 : decode cX8_judged 12 = .ok (.iadd, 1) := by decide +kernel
theorem dX8_judged_13 : decode cX8_judged 13 = .ok (.istore_n 3, 1) := by decide +kernel
theorem dX8_judged_14 : decode cX8_judged 14 = .ok (.iconst (-1), 1) := by decide +kernel
theorem dX8_judged_15 : decode cX8_judged 15 = .ok (.istore 4, 2) := by decide +kernel
theorem dX8_judged_17 : decode cX8_judged 17 = .ok (.iconst (-1), 1) := by decide +kernel
theorem dX8_judged_18 : decode cX8_judged 18 = .ok (.istore 5, 2) := by decide +kernel
theorem dX8_judged_20 : decode cX8_judged 20 = .ok (.iload_n 2, 1) := by decide +kernel
theorem dX8_judged_21 : decode cX8_judged 21 = .ok (.istore 6, 2) := by decide +kernel
theorem dX8_judged_23 : decode cX8_judged 23 = .ok (.iload 6, 2) := by decide +kernel
theorem dX8_judged_25 : decode cX8_judged 25 = .ok (.iload_n 3, 1) := by decide +kernel
theorem dX8_judged_26 : decode cX8_judged 26 = .ok (.if_icmp .ge 70, 3) := by decide +kernel
theorem dX8_judged_29 : decode cX8_judged 29 = .ok (.iload 4, 2) := by decide +kernel
theorem dX8_judged_31 : decode cX8_judged 31 = .ok (.iconst (-1), 1) := by decide +kernel
theorem dX8_judged_32 : decode cX8_judged 32 = .ok (.if_icmp .ne 64, 3) := by decide +kernel
theorem dX8_judged_35 : decode cX8_judged 35 = .ok (.aload_n 0, 1) := by decide +kernel
theorem dX8_judged_36 : decode cX8_judged 36 = .ok (.iload 6, 2) := by decide +kernel
theorem dX8_judged_38 : decode cX8_judged 38 = .ok (.iconst 0, 1) := by decide +kernel
theorem dX8_judged_39 : decode cX8_judged 39 = .ok (.invokevirtual 118, 3) := by decide +kernel
theorem dX8_judged_42 : decode cX8_judged 42 = .ok (.ifCond .ne 13, 3) := by decide +kernel
theorem dX8_judged_45 : decode cX8_judged 45 = .ok (.aload_n 0, 1) := by decide +kernel
theorem dX8_judged_46 : decode cX8_judged 46 = .ok (.iload 6, 2) := by decide +kernel
theorem dX8_judged_48 : decode cX8_judged 48 = .ok (.iconst 1, 1) := by decide +kernel
theorem dX8_judged_49 : decode cX8_judged 49 = .ok (.invokevirtual 118, 3) := by decide +kernel
theorem dX8_judged_52 : decode cX8_judged 52 = .ok (.ifCond .eq 8, 3) := by decide +kernel
theorem dX8_judged_55 : decode cX8_judged 55 = .ok (.iload 6, 2) := by decide +kernel
theorem dX8_judged_57 : decode cX8_judged 57 = .ok (.goto 4, 3) := by decide +kernel
theorem dX8_judged_60 : decode cX8_judged 60 = .ok (.iconst (-1), 1) := by decide +kernel
theorem dX8_judged_61 : decode cX8_judged 61 = .ok (.istore 4, 2) := by decide +kernel
theorem dX8_judged_63 : decode cX8_judged 63 = .ok (.aload_n 0, 1) := by decide +kernel
theorem dX8_judged_64 : decode cX8_judged 64 = .ok (.getfield 41, 3) := by decide +kernel
theorem dX8_judged_67 : decode cX8_judged 67 = .ok (.iload 6, 2) := by decide +kernel
theorem dX8_judged_69 : decode cX8_judged 69 = .ok (.iaload, 1) := by decide +kernel
theorem dX8_judged_70 : decode cX8_judged 70 = .ok (.iconst 4, 1) := by decide +kernel
theorem dX8_judged_71 : decode cX8_judged 71 = .ok (.if_icmp .lt 15, 3) := by decide +kernel
theorem dX8_judged_74 : decode cX8_judged 74 = .ok (.aload_n 0, 1) := by decide +kernel
theorem dX8_judged_75 : decode cX8_judged 75 = .ok (.getfield 41, 3) := by decide +kernel
theorem dX8_judged_78 : decode cX8_judged 78 = .ok (.iload 6, 2) := by decide +kernel
theorem dX8_judged_80 : decode cX8_judged 80 = .ok (.iaload, 1) := by decide +kernel
theorem dX8_judged_81 : decode cX8_judged 81 = .ok (.iconst 5, 1) := by decide +kernel
theorem dX8_judged_82 : decode cX8_judged 82 = .ok (.isub, 1) := by decide +kernel
theorem dX8_judged_83 : decode cX8_judged 83 = .ok (.goto 5, 3) := by decide +kernel
theorem dX8_judged_86 : decode cX8_judged 86 = .ok (.iload 5, 2) := by decide +kernel
theorem dX8_judged_88 : decode cX8_judged 88 = .ok (.istore 5, 2) := by decide +kernel
theorem dX8_judged_90 : decode cX8_judged 90 = .ok (.iinc 6 1, 3) := by decide +kernel
theorem dX8_judged_93 : decode cX8_judged 93 = .ok (.goto (-70), 3) := by decide +kernel
theorem dX8_judged_96 : decode cX8_judged 96 = .ok (.iload 4, 2) := by decide +kernel
theorem dX8_judged_98 : decode cX8_judged 98 = .ok (.iconst (-1), 1) := by decide +kernel
theorem dX8_judged_99 : decode cX8_judged 99 = .ok (.if_icmp .ne 5, 3) := by decide +kernel
theorem dX8_judged_102 : decode cX8_judged 102 = .ok (.iconst 0, 1) := by decide +kernel
theorem dX8_judged_103 : decode cX8_judged 103 = .ok (.ireturn, 1) := by decide +kernel
theorem dX8_judged_104 : decode cX8_judged 104 = .ok (.aload_n 0, 1) := by decide +kernel
theorem dX8_judged_105 : decode cX8_judged 105 = .ok (.getfield 41, 3) := by decide +kernel
theorem dX8_judged_108 : decode cX8_judged 108 = .ok (.iload 4, 2) := by decide +kernel
theorem dX8_judged_110 : decode cX8_judged 110 = .ok (.iaload, 1) := by decide +kernel
theorem dX8_judged_111 : decode cX8_judged 111 = .ok (.iconst 2, 1) := by decide +kernel
theorem dX8_judged_112 : decode cX8_judged 112 = .ok (.idiv, 1) := by decide +kernel
theorem dX8_judged_113 : decode cX8_judged 113 = .ok (.istore 6, 2) := by decide +kernel
theorem dX8_judged_115 : decode cX8_judged 115 = .ok (.iconst (-1), 1) := by decide +kernel
theorem dX8_judged_116 : decode cX8_judged 116 = .ok (.istore 7, 2) := by decide +kernel
theorem dX8_judged_118 : decode cX8_judged 118 = .ok (.iload 4, 2) := by decide +kernel
theorem dX8_judged_120 : decode cX8_judged 120 = .ok (.iconst 1, 1) := by decide +kernel
theorem dX8_judged_121 : decode cX8_judged 121 = .ok (.iadd, 1) := by decide +kernel
theorem dX8_judged_122 : decode cX8_judged 122 = .ok (.istore 8, 2) := by decide +kernel
theorem dX8_judged_124 : decode cX8_judged 124 = .ok (.iload 8, 2) := by decide +kernel
theorem dX8_judged_126 : decode cX8_judged 126 = .ok (.iload_n 3, 1) := by decide +kernel
theorem dX8_judged_127 : decode cX8_judged 127 = .ok (.if_icmp .ge 36, 3) := by decide +kernel
theorem dX8_judged_130 : decode cX8_judged 130 = .ok (.iload 7, 2) := by decide +kernel
theorem dX8_judged_132 : decode cX8_judged 132 = .ok (.iconst (-1), 1) := by decide +kernel
theorem dX8_judged_133 : decode cX8_judged 133 = .ok (.if_icmp .ne 30, 3) := by decide +kernel
theorem dX8_judged_136 : decode cX8_judged 136 = .ok (.aload_n 0, 1) := by decide +kernel
theorem dX8_judged_137 : decode cX8_judged 137 = .ok (.iload 8, 2) := by decide +kernel
theorem dX8_judged_139 : decode cX8_judged 139 = .ok (.iconst 1, 1) := by decide +kernel
theorem dX8_judged_140 : decode cX8_judged 140 = .ok (.iload 6, 2) := by decide +kernel
theorem dX8_judged_142 : decode cX8_judged 142 = .ok (.isub, 1) := by decide +kernel
theorem dX8_judged_143 : decode cX8_judged 143 = .ok (.invokevirtual 118, 3) := by decide +kernel
theorem dX8_judged_146 : decode cX8_judged 146 = .ok (.ifCond .eq 8, 3) := by decide +kernel
theorem dX8_judged_149 : decode cX8_judged 149 = .ok (.iload 8, 2) := by decide +kernel
theorem dX8_judged_151 : decode cX8_judged 151 = .ok (.goto 4, 3) := by decide +kernel
theorem dX8_judged_154 : decode cX8_judged 154 = .ok (.iconst (-1), 1) := by decide +kernel
theorem dX8_judged_155 : decode cX8_judged 155 = .ok (.istore 7, 2) := by decide +kernel
theorem dX8_judged_157 : decode cX8_judged 157 = .ok (.iinc 8 1, 3) := by decide +kernel
theorem dX8_judged_160 : decode cX8_judged 160 = .ok (.goto (-36), 3) := by decide +kernel
theorem dX8_judged_163 : decode cX8_judged 163 = .ok (.iload 7, 2) := by decide +kernel
theorem dX8_judged_165 : decode cX8_judged 165 = .ok (.iconst (-1), 1) := by decide +kernel
theorem dX8_judged_166 : decode cX8_judged 166 = .ok (.if_icmp .eq 40, 3) := by decide +kernel
theorem dX8_judged_169 : decode cX8_judged 169 = .ok (.aload_n 0, 1) := by decide +kernel
theorem dX8_judged_170 : decode cX8_judged 170 = .ok (.getfield 44, 3) := by decide +kernel
theorem dX8_judged_173 : decode cX8_judged 173 = .ok (.iload 7, 2) := by decide +kernel
theorem dX8_judged_175 : decode cX8_judged 175 = .ok (.iaload, 1) := by decide +kernel
theorem dX8_judged_176 : decode cX8_judged 176 = .ok (.aload_n 0, 1) := by decide +kernel
theorem dX8_judged_177 : decode cX8_judged 177 = .ok (.getfield 44, 3) := by decide +kernel
theorem dX8_judged_180 : decode cX8_judged 180 = .ok (.iload 4, 2) := by decide +kernel
theorem dX8_judged_182 : decode cX8_judged 182 = .ok (.iaload, 1) := by decide +kernel
theorem dX8_judged_183 : decode cX8_judged 183 = .ok (.isub, 1) := by decide +kernel
theorem dX8_judged_184 : decode cX8_judged 184 = .ok (.aload_n 0, 1) := by decide +kernel
theorem dX8_judged_185 : decode cX8_judged 185 = .ok (.getfield 75, 3) := by decide +kernel
theorem dX8_judged_188 : decode cX8_judged 188 = .ok (.ifCond .eq 9, 3) := by decide +kernel
theorem dX8_judged_191 : decode cX8_judged 191 = .ok (.sipush 300, 3) := by decide +kernel
theorem dX8_judged_194 : decode cX8_judged 194 = .ok (.goto 5, 3) := by decide +kernel
theorem dX8_judged_197 : decode cX8_judged 197 = .ok (.bipush 40, 2) := by decide +kernel
theorem dX8_judged_199 : decode cX8_judged 199 = .ok (.if_icmp .gt 7, 3) := by decide +kernel
theorem dX8_judged_202 : decode cX8_judged 202 = .ok (.iconst 1, 1) := by decide +kernel
theorem dX8_judged_203 : decode cX8_judged 203 = .ok (.goto 4, 3) := by decide +kernel
theorem dX8_judged_206 : decode cX8_judged 206 = .ok (.iconst 0, 1) := by decide +kernel
theorem dX8_judged_207 : decode cX8_judged 207 = .ok (.istore 8, 2) := by decide +kernel
theorem dX8_judged_209 : decode cX8_judged 209 = .ok (.aload_n 0, 1) := by decide +kernel
theorem dX8_judged_210 : decode cX8_judged 210 = .ok (.getfield 38, 3) := by decide +kernel
theorem dX8_judged_213 : decode cX8_judged 213 = .ok (.iload_n 1, 1) := by decide +kernel
theorem dX8_judged_214 : decode cX8_judged 214 = .ok (.iaload, 1) := by decide +kernel
theorem dX8_judged_215 : decode cX8_judged 215 = .ok (.bipush (-2), 2) := by decide +kernel
theorem dX8_judged_217 : decode cX8_judged 217 = .ok (.if_icmp .ne 8, 3) := by decide +kernel
theorem dX8_judged_220 : decode cX8_judged 220 = .ok (.iload 5, 2) := by decide +kernel
theorem dX8_judged_222 : decode cX8_judged 222 = .ok (.goto 9, 3) := by decide +kernel
theorem dX8_judged_225 : decode cX8_judged 225 = .ok (.aload_n 0, 1) := by decide +kernel
theorem dX8_judged_226 : decode cX8_judged 226 = .ok (.getfield 38, 3) := by decide +kernel
theorem dX8_judged_229 : decode cX8_judged 229 = .ok (.iload_n 1, 1) := by decide +kernel
theorem dX8_judged_230 : decode cX8_judged 230 = .ok (.iaload, 1) := by decide +kernel
theorem dX8_judged_231 : decode cX8_judged 231 = .ok (.istore 5, 2) := by decide +kernel
theorem dX8_judged_233 : decode cX8_judged 233 = .ok (.iload 8, 2) := by decide +kernel
theorem dX8_judged_235 : decode cX8_judged 235 = .ok (.ifCond .ne 25, 3) := by decide +kernel
theorem dX8_judged_238 : decode cX8_judged 238 = .ok (.aload_n 0, 1) := by decide +kernel
theorem dX8_judged_239 : decode cX8_judged 239 = .ok (.getfield 41, 3) := by decide +kernel
theorem dX8_judged_242 : decode cX8_judged 242 = .ok (.iload 4, 2) := by decide +kernel
theorem dX8_judged_244 : decode cX8_judged 244 = .ok (.iaload, 1) := by decide +kernel
theorem dX8_judged_245 : decode cX8_judged 245 = .ok (.iconst 2, 1) := by decide +kernel
theorem dX8_judged_246 : decode cX8_judged 246 = .ok (.irem, 1) := by decide +kernel
theorem dX8_judged_247 : decode cX8_judged 247 = .ok (.iconst 1, 1) := by decide +kernel
theorem dX8_judged_248 : decode cX8_judged 248 = .ok (.if_icmp .ne 10, 3) := by decide +kernel
theorem dX8_judged_251 : decode cX8_judged 251 = .ok (.iconst 1, 1) := by decide +kernel
theorem dX8_judged_252 : decode cX8_judged 252 = .ok (.iload 6, 2) := by decide +kernel
theorem dX8_judged_254 : decode cX8_judged 254 = .ok (.ishl, 1) := by decide +kernel
theorem dX8_judged_255 : decode cX8_judged 255 = .ok (.goto 4, 3) := by decide +kernel
theorem dX8_judged_258 : decode cX8_judged 258 = .ok (.iconst 0, 1) := by decide +kernel
theorem dX8_judged_259 : decode cX8_judged 259 = .ok (.ireturn, 1) := by decide +kernel
theorem dX8_judged_260 : decode cX8_judged 260 = .ok (.aload_n 0, 1) := by decide +kernel
theorem dX8_judged_261 : decode cX8_judged 261 = .ok (.getfield 75, 3) := by decide +kernel
theorem dX8_judged_264 : decode cX8_judged 264 = .ok (.ifCond .ne 5, 3) := by decide +kernel
theorem dX8_judged_267 : decode cX8_judged 267 = .ok (.iconst 3, 1) := by decide +kernel
theorem dX8_judged_268 : decode cX8_judged 268 = .ok (.ireturn, 1) := by decide +kernel
theorem dX8_judged_269 : decode cX8_judged 269 = .ok (.iload 5, 2) := by decide +kernel
theorem dX8_judged_271 : decode cX8_judged 271 = .ok (.iload 6, 2) := by decide +kernel
theorem dX8_judged_273 : decode cX8_judged 273 = .ok (.if_icmp .ne 8, 3) := by decide +kernel
theorem dX8_judged_276 : decode cX8_judged 276 = .ok (.iload 4, 2) := by decide +kernel
theorem dX8_judged_278 : decode cX8_judged 278 = .ok (.goto 5, 3) := by decide +kernel
theorem dX8_judged_281 : decode cX8_judged 281 = .ok (.iload 7, 2) := by decide +kernel
theorem dX8_judged_283 : decode cX8_judged 283 = .ok (.istore 9, 2) := by decide +kernel
theorem dX8_judged_285 : decode cX8_judged 285 = .ok (.iload 5, 2) := by decide +kernel
theorem dX8_judged_287 : decode cX8_judged 287 = .ok (.iconst (-1), 1) := by decide +kernel
theorem dX8_judged_288 : decode cX8_judged 288 = .ok (.if_icmp .eq 23, 3) := by decide +kernel
theorem dX8_judged_291 : decode cX8_judged 291 = .ok (.aload_n 0, 1) := by decide +kernel
theorem dX8_judged_292 : decode cX8_judged 292 = .ok (.getfield 41, 3) := by decide +kernel
theorem dX8_judged_295 : decode cX8_judged 295 = .ok (.iload 9, 2) := by decide +kernel
theorem dX8_judged_297 : decode cX8_judged 297 = .ok (.iaload, 1) := by decide +kernel
theorem dX8_judged_298 : decode cX8_judged 298 = .ok (.iconst 2, 1) := by decide +kernel
theorem dX8_judged_299 : decode cX8_judged 299 = .ok (.irem, 1) := by decide +kernel
theorem dX8_judged_300 : decode cX8_judged 300 = .ok (.iconst 1, 1) := by decide +kernel
theorem dX8_judged_301 : decode cX8_judged 301 = .ok (.if_icmp .ne 10, 3) := by decide +kernel
theorem dX8_judged_304 : decode cX8_judged 304 = .ok (.iconst 1, 1) := by decide +kernel
theorem dX8_judged_305 : decode cX8_judged 305 = .ok (.iload 5, 2) := by decide +kernel
theorem dX8_judged_307 : decode cX8_judged 307 = .ok (.ishl, 1) := by decide +kernel
theorem dX8_judged_308 : decode cX8_judged 308 = .ok (.goto 4, 3) := by decide +kernel
theorem dX8_judged_311 : decode cX8_judged 311 = .ok (.iconst 0, 1) := by decide +kernel
theorem dX8_judged_312 : decode cX8_judged 312 = .ok (.ireturn, 1) := by decide +kernel
theorem dX8_strikes_0 : decode cX8_strikes 0 = .ok (.aload_n 0, 1) := by decide +kernel
theorem dX8_strikes_1 : decode cX8_strikes 1 = .ok (.getfield 13, 3) := by decide +kernel
theorem dX8_strikes_4 : decode cX8_strikes 4 = .ok (.iload_n 1, 1) := by decide +kernel
theorem dX8_strikes_5 : decode cX8_strikes 5 = .ok (.iaload, 1) := by decide +kernel
theorem dX8_strikes_6 : decode cX8_strikes 6 = .ok (.iconst 2, 1) := by decide +kernel
theorem dX8_strikes_7 : decode cX8_strikes 7 = .ok (.if_icmp .ne 20, 3) := by decide +kernel
theorem dX8_strikes_10 : decode cX8_strikes 10 = .ok (.iload_n 2, 1) := by decide +kernel
theorem dX8_strikes_11 : decode cX8_strikes 11 = .ok (.ifCond .eq 12, 3) := by decide +kernel
theorem dX8_strikes_14 : decode cX8_strikes 14 = .ok (.aload_n 0, 1) := by decide +kernel
theorem dX8_strikes_15 : decode cX8_strikes 15 = .ok (.getfield 16, 3) := by decide +kernel
theorem dX8_strikes_18 : decode cX8_strikes 18 = .ok (.iload_n 1, 1) := by decide +kernel
theorem dX8_strikes_19 : decode cX8_strikes 19 = .ok (.baload, 1) := by decide +kernel
theorem dX8_strikes_20 : decode cX8_strikes 20 = .ok (.ifCond .eq 7, 3) := by decide +kernel
theorem dX8_strikes_23 : decode cX8_strikes 23 = .ok (.iconst 1, 1) := by decide +kernel
theorem dX8_strikes_24 : decode cX8_strikes 24 = .ok (.goto 4, 3) := by decide +kernel
theorem dX8_strikes_27 : decode cX8_strikes 27 = .ok (.iconst 0, 1) := by decide +kernel
theorem dX8_strikes_28 : decode cX8_strikes 28 = .ok (.ireturn, 1) := by decide +kernel
theorem dX8_touched_0 : decode cX8_touched 0 = .ok (.bipush 12, 2) := by decide +kernel
theorem dX8_touched_2 : decode cX8_touched 2 = .ok (.iload_n 1, 1) := by decide +kernel
theorem dX8_touched_3 : decode cX8_touched 3 = .ok (.imul, 1) := by decide +kernel
theorem dX8_touched_4 : decode cX8_touched 4 = .ok (.iload_n 2, 1) := by decide +kernel
theorem dX8_touched_5 : decode cX8_touched 5 = .ok (.iadd, 1) := by decide +kernel
theorem dX8_touched_6 : decode cX8_touched 6 = .ok (.istore_n 3, 1) := by decide +kernel
theorem dX8_touched_7 : decode cX8_touched 7 = .ok (.aload_n 0, 1) := by decide +kernel
theorem dX8_touched_8 : decode cX8_touched 8 = .ok (.iload_n 3, 1) := by decide +kernel
theorem dX8_touched_9 : decode cX8_touched 9 = .ok (.invokevirtual 121, 3) := by decide +kernel
theorem dX8_touched_12 : decode cX8_touched 12 = .ok (.istore 4, 2) := by decide +kernel
theorem dX8_touched_14 : decode cX8_touched 14 = .ok (.iload 4, 2) := by decide +kernel
theorem dX8_touched_16 : decode cX8_touched 16 = .ok (.aload_n 0, 1) := by decide +kernel
theorem dX8_touched_17 : decode cX8_touched 17 = .ok (.aload_n 0, 1) := by decide +kernel
theorem dX8_touched_18 : decode cX8_touched 18 = .ok (.getfield 35, 3) := by decide +kernel
theorem dX8_touched_21 : decode cX8_touched 21 = .ok (.iconst 2, 1) := by decide +kernel
theorem dX8_touched_22 : decode cX8_touched 22 = .ok (.iload_n 3, 1) := by decide +kernel
theorem dX8_touched_23 : decode cX8_touched 23 = .ok (.imul, 1) := by decide +kernel
theorem dX8_touched_24 : decode cX8_touched 24 = .ok (.iaload, 1) := by decide +kernel
theorem dX8_touched_25 : decode cX8_touched 25 = .ok (.iload_n 1, 1) := by decide +kernel
theorem dX8_touched_26 : decode cX8_touched 26 = .ok (.bipush 66, 2) := by decide +kernel
theorem dX8_touched_28 : decode cX8_touched 28 = .ok (.if_icmp .ge 7, 3) := by decide +kernel
theorem dX8_touched_31 : decode cX8_touched 31 = .ok (.iconst 1, 1) := by decide +kernel
theorem dX8_touched_32 : decode cX8_touched 32 = .ok (.goto 4, 3) := by decide +kernel
theorem dX8_touched_35 : decode cX8_touched 35 = .ok (.iconst 0, 1) := by decide +kernel
theorem dX8_touched_36 : decode cX8_touched 36 = .ok (.invokevirtual 125, 3) := by decide +kernel
theorem dX8_touched_39 : decode cX8_touched 39 = .ok (.ifCond .eq 7, 3) := by decide +kernel
theorem dX8_touched_42 : decode cX8_touched 42 = .ok (.iconst 2, 1) := by decide +kernel
theorem dX8_touched_43 : decode cX8_touched 43 = .ok (.goto 4, 3) := by decide +kernel
theorem dX8_touched_46 : decode cX8_touched 46 = .ok (.iconst 3, 1) := by decide +kernel
theorem dX8_touched_47 : decode cX8_touched 47 = .ok (.iand, 1) := by decide +kernel
theorem dX8_touched_48 : decode cX8_touched 48 = .ok (.istore 4, 2) := by decide +kernel
theorem dX8_touched_50 : decode cX8_touched 50 = .ok (.iload 4, 2) := by decide +kernel
theorem dX8_touched_52 : decode cX8_touched 52 = .ok (.aload_n 0, 1) := by decide +kernel
theorem dX8_touched_53 : decode cX8_touched 53 = .ok (.aload_n 0, 1) := by decide +kernel
theorem dX8_touched_54 : decode cX8_touched 54 = .ok (.getfield 35, 3) := by decide +kernel
theorem dX8_touched_57 : decode cX8_touched 57 = .ok (.iconst 2, 1) := by decide +kernel
theorem dX8_touched_58 : decode cX8_touched 58 = .ok (.iload_n 3, 1) := by decide +kernel
theorem dX8_touched_59 : decode cX8_touched 59 = .ok (.imul, 1) := by decide +kernel
theorem dX8_touched_60 : decode cX8_touched 60 = .ok (.iconst 1, 1) := by decide +kernel
theorem dX8_touched_61 : decode cX8_touched 61 = .ok (.iadd, 1) := by decide +kernel
theorem dX8_touched_62 : decode cX8_touched 62 = .ok (.iaload, 1) := by decide +kernel
theorem dX8_touched_63 : decode cX8_touched 63 = .ok (.iload_n 1, 1) := by decide +kernel
theorem dX8_touched_64 : decode cX8_touched 64 = .ok (.bipush 66, 2) := by decide +kernel
theorem dX8_touched_66 : decode cX8_touched 66 = .ok (.if_icmp .ge 7, 3) := by decide +kernel
theorem dX8_touched_69 : decode cX8_touched 69 = .ok (.iconst 1, 1) := by decide +kernel
theorem dX8_touched_70 : decode cX8_touched 70 = .ok (.goto 4, 3) := by decide +kernel
theorem dX8_touched_73 : decode cX8_touched 73 = .ok (.iconst 0, 1) := by decide +kernel
theorem dX8_touched_74 : decode cX8_touched 74 = .ok (.invokevirtual 125, 3) := by decide +kernel
theorem dX8_touched_77 : decode cX8_touched 77 = .ok (.ifCond .eq 7, 3) := by decide +kernel
theorem dX8_touched_80 : decode cX8_touched 80 = .ok (.iconst 1, 1) := by decide +kernel
theorem dX8_touched_81 : decode cX8_touched 81 = .ok (.goto 4, 3) := by decide +kernel
theorem dX8_touched_84 : decode cX8_touched 84 = .ok (.iconst 3, 1) := by decide +kernel
theorem dX8_touched_85 : decode cX8_touched 85 = .ok (.iand, 1) := by decide +kernel
theorem dX8_touched_86 : decode cX8_touched 86 = .ok (.ireturn, 1) := by decide +kernel
theorem dX8_tells_0 : decode cX8_tells 0 = .ok (.iload_n 1, 1) := by decide +kernel
theorem dX8_tells_1 : decode cX8_tells 1 = .ok (.bipush 66, 2) := by decide +kernel
theorem dX8_tells_3 : decode cX8_tells 3 = .ok (.if_icmp .ge 7, 3) := by decide +kernel
theorem dX8_tells_6 : decode cX8_tells 6 = .ok (.iconst 3, 1) := by decide +kernel
theorem dX8_tells_7 : decode cX8_tells 7 = .ok (.goto 4, 3) := by decide +kernel
theorem dX8_tells_10 : decode cX8_tells 10 = .ok (.iconst 5, 1) := by decide +kernel
theorem dX8_tells_11 : decode cX8_tells 11 = .ok (.istore_n 2, 1) := by decide +kernel
theorem dX8_tells_12 : decode cX8_tells 12 = .ok (.aload_n 0, 1) := by decide +kernel
theorem dX8_tells_13 : decode cX8_tells 13 = .ok (.iconst 0, 1) := by decide +kernel
theorem dX8_tells_14 : decode cX8_tells 14 = .ok (.putfield 129, 3) := by decide +kernel
theorem dX8_tells_17 : decode cX8_tells 17 = .ok (.aload_n 0, 1) := by decide +kernel
theorem dX8_tells_18 : decode cX8_tells 18 = .ok (.iconst 0, 1) := by decide +kernel
theorem dX8_tells_19 : decode cX8_tells 19 = .ok (.putfield 132, 3) := by decide +kernel
theorem dX8_tells_22 : decode cX8_tells 22 = .ok (.aload_n 0, 1) := by decide +kernel
theorem dX8_tells_23 : decode cX8_tells 23 = .ok (.iconst (-1), 1) := by decide +kernel
theorem dX8_tells_24 : decode cX8_tells 24 = .ok (.putfield 135, 3) := by decide +kernel
theorem dX8_tells_27 : decode cX8_tells 27 = .ok (.iconst 0, 1) := by decide +kernel
theorem dX8_tells_28 : decode cX8_tells 28 = .ok (.istore_n 3, 1) := by decide +kernel
theorem dX8_tells_29 : decode cX8_tells 29 = .ok (.iload_n 3, 1) := by decide +kernel
theorem dX8_tells_30 : decode cX8_tells 30 = .ok (.aload_n 0, 1) := by decide +kernel
theorem dX8_tells_31 : decode cX8_tells 31 = .ok (.getfield 26, 3) := by decide +kernel
theorem dX8_tells_34 : decode cX8_tells 34 = .ok (.iload_n 1, 1) := by decide +kernel
theorem dX8_tells_35 : decode cX8_tells 35 = .ok (.iaload, 1) := by decide +kernel
theorem dX8_tells_36 : decode cX8_tells 36 = .ok (.if_icmp .ge 106, 3) := by decide +kernel
theorem dX8_tells_39 : decode cX8_tells 39 = .ok (.aload_n 0, 1) := by decide +kernel
theorem dX8_tells_40 : decode cX8_tells 40 = .ok (.getfield 135, 3) := by decide +kernel
theorem dX8_tells_43 : decode cX8_tells 43 = .ok (.iconst (-1), 1) := by decide +kernel
theorem dX8_tells_44 : decode cX8_tells 44 = .ok (.if_icmp .ne 98, 3) := by decide +kernel
theorem dX8_tells_47 : decode cX8_tells 47 = .ok (.aload_n 0, 1) := by decide +kernel
theorem dX8_tells_48 : decode cX8_tells 48 = .ok (.iload_n 1, 1) := by decide +kernel
theorem dX8_tells_49 : decode cX8_tells 49 = .ok (.iload_n 3, 1) := by decide +kernel
theorem dX8_tells_50 : decode cX8_tells 50 = .ok (.invokevirtual 138, 3) := by decide +kernel
theorem dX8_tells_53 : decode cX8_tells 53 = .ok (.istore 4, 2) := by decide +kernel
theorem dX8_tells_55 : decode cX8_tells 55 = .ok (.iload 4, 2) := by decide +kernel
theorem dX8_tells_57 : decode cX8_tells 57 = .ok (.iconst 3, 1) := by decide +kernel
theorem dX8_tells_58 : decode cX8_tells 58 = .ok (.if_icmp .lt 23, 3) := by decide +kernel
theorem dX8_tells_61 : decode cX8_tells 61 = .ok (.aload_n 0, 1) := by decide +kernel
theorem dX8_tells_62 : decode cX8_tells 62 = .ok (.getfield 129, 3) := by decide +kernel
theorem dX8_tells_65 : decode cX8_tells 65 = .ok (.iconst 1, 1) := by decide +kernel
theorem dX8_tells_66 : decode cX8_tells 66 = .ok (.iadd, 1) := by decide +kernel
theorem dX8_tells_67 : decode cX8_tells 67 = .ok (.iload_n 2, 1) := by decide +kernel
theorem dX8_tells_68 : decode cX8_tells 68 = .ok (.if_icmp .lt 13, 3) := by decide +kernel
theorem dX8_tells_71 : decode cX8_tells 71 = .ok (.aload_n 0, 1) := by decide +kernel
theorem dX8_tells_72 : decode cX8_tells 72 = .ok (.getfield 132, 3) := by decide +kernel
theorem dX8_tells_75 : decode cX8_tells 75 = .ok (.iconst 1, 1) := by decide +kernel
theorem dX8_tells_76 : decode cX8_tells 76 = .ok (.iadd, 1) := by decide +kernel
theorem dX8_tells_77 : decode cX8_tells 77 = .ok (.iload_n 2, 1) := by decide +kernel
theorem dX8_tells_78 : decode cX8_tells 78 = .ok (.if_icmp .ge 29, 3) := by decide +kernel
theorem dX8_tells_81 : decode cX8_tells 81 = .ok (.aload_n 0, 1) := by decide +kernel
theorem dX8_tells_82 : decode cX8_tells 82 = .ok (.dup, 1) := by decide +kernel
theorem dX8_tells_83 : decode cX8_tells 83 = .ok (.getfield 129, 3) := by decide +kernel
