theorem dX11_start_55 : decode cX11_start 55 = .ok (.iconst 0, 1) := by decide +kernel
theorem dX11_start_56 : decode cX11_start 56 = .ok (.putfield 79, 3) := by decide +kernel
theorem dX11_start_59 : decode cX11_start 59 = .ok (.aload_n 0, 1) := by decide +kernel
theorem dX11_start_60 : decode cX11_start 60 = .ok (.iconst 0, 1) := by decide +kernel
theorem dX11_start_61 : decode cX11_start 61 = .ok (.putfield 82, 3) := by decide +kernel
theorem dX11_start_64 : decode cX11_start 64 = .ok (.aload_n 0, 1) := by decide +kernel
theorem dX11_start_65 : decode cX11_start 65 = .ok (.iconst 0, 1) := by decide +kernel
theorem dX11_start_66 : decode cX11_start 66 = .ok (.putfield 85, 3) := by decide +kernel
theorem dX11_start_69 : decode cX11_start 69 = .ok (.aload_n 0, 1) := by decide +kernel
theorem dX11_start_70 : decode cX11_start 70 = .ok (.sipush 256, 3) := by decide +kernel
theorem dX11_start_73 : decode cX11_start 73 = .ok (.putfield 88, 3) := by decide +kernel
theorem dX11_start_76 : decode cX11_start 76 = .ok (.aload_n 0, 1) := by decide +kernel
theorem dX11_start_77 : decode cX11_start 77 = .ok (.invokevirtual 91, 3) := by decide +kernel
theorem dX11_start_80 : decode cX11_start 80 = .ok (.return_, 1) := by decide +kernel
theorem dX11_keepCopy_0 : decode cX11_keepCopy 0 = .ok (.aload_n 0, 1) := by decide +kernel
theorem dX11_keepCopy_1 : decode cX11_keepCopy 1 = .ok (.getfield 85, 3) := by decide +kernel
theorem dX11_keepCopy_4 : decode cX11_keepCopy 4 = .ok (.bipush 8, 2) := by decide +kernel
theorem dX11_keepCopy_6 : decode cX11_keepCopy 6 = .ok (.if_icmp .ge 42, 3) := by decide +kernel
theorem dX11_keepCopy_9 : decode cX11_keepCopy 9 = .ok (.aload_n 0, 1) := by decide +kernel
theorem dX11_keepCopy_10 : decode cX11_keepCopy 10 = .ok (.getfield 48, 3) := by decide +kernel
theorem dX11_keepCopy_13 : decode cX11_keepCopy 13 = .ok (.aload_n 0, 1) := by decide +kernel
theorem dX11_keepCopy_14 : decode cX11_keepCopy 14 = .ok (.getfield 85, 3) := by decide +kernel
theorem dX11_keepCopy_17 : decode cX11_keepCopy 17 = .ok (.aaload, 1) := by decide +kernel
theorem dX11_keepCopy_18 : decode cX11_keepCopy 18 = .ok (.aload_n 0, 1) := by decide +kernel
theorem dX11_keepCopy_19 : decode cX11_keepCopy 19 = .ok (.getfield 30, 3) := by decide +kernel
theorem dX11_keepCopy_22 : decode cX11_keepCopy 22 = .ok (.invokevirtual 94, 3) := by decide +kernel
theorem dX11_keepCopy_25 : decode cX11_keepCopy 25 = .ok (.aload_n 0, 1) := by decide +kernel
theorem dX11_keepCopy_26 : decode cX11_keepCopy 26 = .ok (.getfield 52, 3) := by decide +kernel
theorem dX11_keepCopy_29 : decode cX11_keepCopy 29 = .ok (.aload_n 0, 1) := by decide +kernel
theorem dX11_keepCopy_30 : decode cX11_keepCopy 30 = .ok (.getfield 85, 3) := by decide +kernel
theorem dX11_keepCopy_33 : decode cX11_keepCopy 33 = .ok (.aload_n 0, 1) := by decide +kernel
theorem dX11_keepCopy_34 : decode cX11_keepCopy 34 = .ok (.getfield 72, 3) := by decide +kernel
theorem dX11_keepCopy_37 : decode cX11_keepCopy 37 = .ok (.iastore, 1) := by decide +kernel
theorem dX11_keepCopy_38 : decode cX11_keepCopy 38 = .ok (.aload_n 0, 1) := by decide +kernel
theorem dX11_keepCopy_39 : decode cX11_keepCopy 39 = .ok (.dup, 1) := by decide +kernel
theorem dX11_keepCopy_40 : decode cX11_keepCopy 40 = .ok (.getfield 85, 3) := by decide +kernel
theorem dX11_keepCopy_43 : decode cX11_keepCopy 43 = .ok (.iconst 1, 1) := by decide +kernel
theorem dX11_keepCopy_44 : decode cX11_keepCopy 44 = .ok (.iadd, 1) := by decide +kernel
theorem dX11_keepCopy_45 : decode cX11_keepCopy 45 = .ok (.putfield 85, 3) := by decide +kernel
theorem dX11_keepCopy_48 : decode cX11_keepCopy 48 = .ok (.return_, 1) := by decide +kernel
theorem dX11_thinOut_0 : decode cX11_thinOut 0 = .ok (.iconst 1, 1) := by decide +kernel
theorem dX11_thinOut_1 : decode cX11_thinOut 1 = .ok (.istore_n 1, 1) := by decide +kernel
theorem dX11_thinOut_2 : decode cX11_thinOut 2 = .ok (.iconst 2, 1) := by decide +kernel
theorem dX11_thinOut_3 : decode cX11_thinOut 3 = .ok (.iload_n 1, 1) := by decide +kernel
theorem dX11_thinOut_4 : decode cX11_thinOut 4 = .ok (.imul, 1) := by decide +kernel
theorem dX11_thinOut_5 : decode cX11_thinOut 5 = .ok (.bipush 8, 2) := by decide +kernel
theorem dX11_thinOut_7 : decode cX11_thinOut 7 = .ok (.if_icmp .ge 53, 3) := by decide +kernel
theorem dX11_thinOut_10 : decode cX11_thinOut 10 = .ok (.aload_n 0, 1) := by decide +kernel
theorem dX11_thinOut_11 : decode cX11_thinOut 11 = .ok (.getfield 48, 3) := by decide +kernel
theorem dX11_thinOut_14 : decode cX11_thinOut 14 = .ok (.iload_n 1, 1) := by decide +kernel
theorem dX11_thinOut_15 : decode cX11_thinOut 15 = .ok (.aaload, 1) := by decide +kernel
theorem dX11_thinOut_16 : decode cX11_thinOut 16 = .ok (.astore_n 2, 1) := by decide +kernel
theorem dX11_thinOut_17 : decode cX11_thinOut 17 = .ok (.aload_n 0, 1) := by decide +kernel
theorem dX11_thinOut_18 : decode cX11_thinOut 18 = .ok (.getfield 48, 3) := by decide +kernel
theorem dX11_thinOut_21 : decode cX11_thinOut 21 = .ok (.iload_n 1, 1) := by decide +kernel
theorem dX11_thinOut_22 : decode cX11_thinOut 22 = .ok (.aload_n 0, 1) := by decide +kernel
theorem dX11_thinOut_23 : decode cX11_thinOut 23 = .ok (.getfield 48, 3) := by decide +kernel
theorem dX11_thinOut_26 : decode cX11_thinOut 26 = .ok (.iconst 2, 1) := by decide +kernel
theorem dX11_thinOut_27 : decode cX11_thinOut 27 = .ok (.iload_n 1, 1) := by decide +kernel
theorem dX11_thinOut_28 : decode cX11_thinOut 28 = .ok (.imul, 1) := by decide +kernel
theorem dX11_thinOut_29 : decode cX11_thinOut 29 = .ok (.aaload, 1) := by decide +kernel
theorem dX11_thinOut_30 : decode cX11_thinOut 30 = .ok (.aastore, 1) := by decide +kernel
theorem dX11_thinOut_31 : decode cX11_thinOut 31 = .ok (.aload_n 0, 1) := by decide +kernel
theorem dX11_thinOut_32 : decode cX11_thinOut 32 = .ok (.getfield 48, 3) := by decide +kernel
theorem dX11_thinOut_35 : decode cX11_thinOut 35 = .ok (.iconst 2, 1) := by decide +kernel
theorem dX11_thinOut_36 : decode cX11_thinOut 36 = .ok (.iload_n 1, 1) := by decide +kernel
theorem dX11_thinOut_37 : decode cX11_thinOut 37 = .ok (.imul, 1) := by decide +kernel
theorem dX11_thinOut_38 : decode cX11_thinOut 38 = .ok (.aload_n 2, 1) := by decide +kernel
theorem dX11_thinOut_39 : decode cX11_thinOut 39 = .ok (.aastore, 1) := by decide +kernel
theorem dX11_thinOut_40 : decode cX11_thinOut 40 = .ok (.aload_n 0, 1) := by decide +kernel
theorem dX11_thinOut_41 : decode cX11_thinOut 41 = .ok (.getfield 52, 3) := by decide +kernel
theorem dX11_thinOut_44 : decode cX11_thinOut 44 = .ok (.iload_n 1, 1) := by decide +kernel
theorem dX11_thinOut_45 : decode cX11_thinOut 45 = .ok (.aload_n 0, 1) := by decide +kernel
theorem dX11_thinOut_46 : decode cX11_thinOut 46 = .ok (.getfield 52, 3) := by decide +kernel
theorem dX11_thinOut_49 : decode cX11_thinOut 49 = .ok (.iconst 2, 1) := by decide +kernel
theorem dX11_thinOut_50 : decode cX11_thinOut 50 = .ok (.iload_n 1, 1) := by decide +kernel
theorem dX11_thinOut_51 : decode cX11_thinOut 51 = .ok (.imul, 1) := by decide +kernel
theorem dX11_thinOut_52 : decode cX11_thinOut 52 = .ok (.iaload, 1) := by decide +kernel
theorem dX11_thinOut_53 : decode cX11_thinOut 53 = .ok (.iastore, 1) := by decide +kernel
theorem dX11_thinOut_54 : decode cX11_thinOut 54 = .ok (.iinc 1 1, 3) := by decide +kernel
theorem dX11_thinOut_57 : decode cX11_thinOut 57 = .ok (.goto (-55), 3) := by decide +kernel
theorem dX11_thinOut_60 : decode cX11_thinOut 60 = .ok (.aload_n 0, 1) := by decide +kernel
theorem dX11_thinOut_61 : decode cX11_thinOut 61 = .ok (.iconst 4, 1) := by decide +kernel
theorem dX11_thinOut_62 : decode cX11_thinOut 62 = .ok (.putfield 85, 3) := by decide +kernel
theorem dX11_thinOut_65 : decode cX11_thinOut 65 = .ok (.aload_n 0, 1) := by decide +kernel
theorem dX11_thinOut_66 : decode cX11_thinOut 66 = .ok (.dup, 1) := by decide +kernel
theorem dX11_thinOut_67 : decode cX11_thinOut 67 = .ok (.getfield 88, 3) := by decide +kernel
theorem dX11_thinOut_70 : decode cX11_thinOut 70 = .ok (.iconst 2, 1) := by decide +kernel
theorem dX11_thinOut_71 : decode cX11_thinOut 71 = .ok (.imul, 1) := by decide +kernel
theorem dX11_thinOut_72 : decode cX11_thinOut 72 = .ok (.putfield 88, 3) := by decide +kernel
theorem dX11_thinOut_75 : decode cX11_thinOut 75 = .ok (.return_, 1) := by decide +kernel
theorem dX11_advance_0 : decode cX11_advance 0 = .ok (.aload_n 0, 1) := by decide +kernel
theorem dX11_advance_1 : decode cX11_advance 1 = .ok (.getfield 39, 3) := by decide +kernel
theorem dX11_advance_4 : decode cX11_advance 4 = .ok (.invokevirtual 98, 3) := by decide +kernel
theorem dX11_advance_7 : decode cX11_advance 7 = .ok (.aload_n 0, 1) := by decide +kernel
theorem dX11_advance_8 : decode cX11_advance 8 = .ok (.getfield 72, 3) := by decide +kernel
theorem dX11_advance_11 : decode cX11_advance 11 = .ok (.aload_n 0, 1) := by decide +kernel
theorem dX11_advance_12 : decode cX11_advance 12 = .ok (.getfield 44, 3) := by decide +kernel
theorem dX11_advance_15 : decode cX11_advance 15 = .ok (.arraylength, 1) := by decide +kernel
theorem dX11_advance_16 : decode cX11_advance 16 = .ok (.if_icmp .ge 19, 3) := by decide +kernel
theorem dX11_advance_19 : decode cX11_advance 19 = .ok (.aload_n 0, 1) := by decide +kernel
theorem dX11_advance_20 : decode cX11_advance 20 = .ok (.getfield 44, 3) := by decide +kernel
theorem dX11_advance_23 : decode cX11_advance 23 = .ok (.aload_n 0, 1) := by decide +kernel
theorem dX11_advance_24 : decode cX11_advance 24 = .ok (.getfield 72, 3) := by decide +kernel
theorem dX11_advance_27 : decode cX11_advance 27 = .ok (.aload_n 0, 1) := by decide +kernel
theorem dX11_advance_28 : decode cX11_advance 28 = .ok (.getfield 30, 3) := by decide +kernel
theorem dX11_advance_31 : decode cX11_advance 31 = .ok (.getfield 101, 3) := by decide +kernel
theorem dX11_advance_34 : decode cX11_advance 34 = .ok (.iastore, 1) := by decide +kernel
theorem dX11_advance_35 : decode cX11_advance 35 = .ok (.aload_n 0, 1) := by decide +kernel
theorem dX11_advance_36 : decode cX11_advance 36 = .ok (.dup, 1) := by decide +kernel
theorem dX11_advance_37 : decode cX11_advance 37 = .ok (.getfield 72, 3) := by decide +kernel
theorem dX11_advance_40 : decode cX11_advance 40 = .ok (.iconst 1, 1) := by decide +kernel
theorem dX11_advance_41 : decode cX11_advance 41 = .ok (.iadd, 1) := by decide +kernel
theorem dX11_advance_42 : decode cX11_advance 42 = .ok (.putfield 72, 3) := by decide +kernel
theorem dX11_advance_45 : decode cX11_advance 45 = .ok (.aload_n 0, 1) := by decide +kernel
theorem dX11_advance_46 : decode cX11_advance 46 = .ok (.getfield 72, 3) := by decide +kernel
theorem dX11_advance_49 : decode cX11_advance 49 = .ok (.iconst 1, 1) := by decide +kernel
theorem dX11_advance_50 : decode cX11_advance 50 = .ok (.aload_n 0, 1) := by decide +kernel
theorem dX11_advance_51 : decode cX11_advance 51 = .ok (.getfield 88, 3) := by decide +kernel
theorem dX11_advance_54 : decode cX11_advance 54 = .ok (.invokestatic 104, 3) := by decide +kernel
theorem dX11_advance_57 : decode cX11_advance 57 = .ok (.irem, 1) := by decide +kernel
theorem dX11_advance_58 : decode cX11_advance 58 = .ok (.ifCond .ne 54, 3) := by decide +kernel
theorem dX11_advance_61 : decode cX11_advance 61 = .ok (.aload_n 0, 1) := by decide +kernel
theorem dX11_advance_62 : decode cX11_advance 62 = .ok (.getfield 72, 3) := by decide +kernel
theorem dX11_advance_65 : decode cX11_advance 65 = .ok (.aload_n 0, 1) := by decide +kernel
theorem dX11_advance_66 : decode cX11_advance 66 = .ok (.getfield 52, 3) := by decide +kernel
theorem dX11_advance_69 : decode cX11_advance 69 = .ok (.aload_n 0, 1) := by decide +kernel
theorem dX11_advance_70 : decode cX11_advance 70 = .ok (.getfield 85, 3) := by decide +kernel
theorem dX11_advance_73 : decode cX11_advance 73 = .ok (.iconst 1, 1) := by decide +kernel
theorem dX11_advance_74 : decode cX11_advance 74 = .ok (.isub, 1) := by decide +kernel
theorem dX11_advance_75 : decode cX11_advance 75 = .ok (.iaload, 1) := by decide +kernel
theorem dX11_advance_76 : decode cX11_advance 76 = .ok (.if_icmp .le 36, 3) := by decide +kernel
theorem dX11_advance_79 : decode cX11_advance 79 = .ok (.aload_n 0, 1) := by decide +kernel
theorem dX11_advance_80 : decode cX11_advance 80 = .ok (.getfield 85, 3) := by decide +kernel
theorem dX11_advance_83 : decode cX11_advance 83 = .ok (.bipush 8, 2) := by decide +kernel
theorem dX11_advance_85 : decode cX11_advance 85 = .ok (.if_icmp .ne 7, 3) := by decide +kernel
theorem dX11_advance_88 : decode cX11_advance 88 = .ok (.aload_n 0, 1) := by decide +kernel
theorem dX11_advance_89 : decode cX11_advance 89 = .ok (.invokevirtual 110, 3) := by decide +kernel
theorem dX11_advance_92 : decode cX11_advance 92 = .ok (.aload_n 0, 1) := by decide +kernel
theorem dX11_advance_93 : decode cX11_advance 93 = .ok (.getfield 72, 3) := by decide +kernel
theorem dX11_advance_96 : decode cX11_advance 96 = .ok (.iconst 1, 1) := by decide +kernel
theorem dX11_advance_97 : decode cX11_advance 97 = .ok (.aload_n 0, 1) := by decide +kernel
theorem dX11_advance_98 : decode cX11_advance 98 = .ok (.getfield 88, 3) := by decide +kernel
theorem dX11_advance_101 : decode cX11_advance 101 = .ok (.invokestatic 104, 3) := by decide +kernel
theorem dX11_advance_104 : decode cX11_advance 104 = .ok (.irem, 1) := by decide +kernel
theorem dX11_advance_105 : decode cX11_advance 105 = .ok (.ifCond .ne 7, 3) := by decide +kernel
theorem dX11_advance_108 : decode cX11_advance 108 = .ok (.aload_n 0, 1) := by decide +kernel
theorem dX11_advance_109 : decode cX11_advance 109 = .ok (.invokevirtual 91, 3) := by decide +kernel
theorem dX11_advance_112 : decode cX11_advance 112 = .ok (.aload_n 0, 1) := by decide +kernel
theorem dX11_advance_113 : decode cX11_advance 113 = .ok (.invokevirtual 113, 3) := by decide +kernel
theorem dX11_advance_116 : decode cX11_advance 116 = .ok (.aload_n 0, 1) := by decide +kernel
theorem dX11_advance_117 : decode cX11_advance 117 = .ok (.getfield 72, 3) := by decide +kernel
theorem dX11_advance_120 : decode cX11_advance 120 = .ok (.aload_n 0, 1) := by decide +kernel
theorem dX11_advance_121 : decode cX11_advance 121 = .ok (.getfield 76, 3) := by decide +kernel
theorem dX11_advance_124 : decode cX11_advance 124 = .ok (.if_icmp .le 15, 3) := by decide +kernel
theorem dX11_advance_127 : decode cX11_advance 127 = .ok (.aload_n 0, 1) := by decide +kernel
theorem dX11_advance_128 : decode cX11_advance 128 = .ok (.aload_n 0, 1) := by decide +kernel
theorem dX11_advance_129 : decode cX11_advance 129 = .ok (.getfield 72, 3) := by decide +kernel
theorem dX11_advance_132 : decode cX11_advance 132 = .ok (.putfield 76, 3) := by decide +kernel
theorem dX11_advance_135 : decode cX11_advance 135 = .ok (.aload_n 0, 1) := by decide +kernel
theorem dX11_advance_136 : decode cX11_advance 136 = .ok (.invokevirtual 62, 3) := by decide +kernel
theorem dX11_advance_139 : decode cX11_advance 139 = .ok (.return_, 1) := by decide +kernel
theorem dX11_takeRecorded_0 : decode cX11_takeRecorded 0 = .ok (.aload_n 0, 1) := by decide +kernel
theorem dX11_takeRecorded_1 : decode cX11_takeRecorded 1 = .ok (.getfield 79, 3) := by decide +kernel
theorem dX11_takeRecorded_4 : decode cX11_takeRecorded 4 = .ok (.aload_n 0, 1) := by decide +kernel
theorem dX11_takeRecorded_5 : decode cX11_takeRecorded 5 = .ok (.getfield 20, 3) := by decide +kernel
theorem dX11_takeRecorded_8 : decode cX11_takeRecorded 8 = .ok (.getfield 116, 3) := by decide +kernel
theorem dX11_takeRecorded_11 : decode cX11_takeRecorded 11 = .ok (.if_icmp .ge 78, 3) := by decide +kernel
theorem dX11_takeRecorded_14 : decode cX11_takeRecorded 14 = .ok (.aload_n 0, 1) := by decide +kernel
theorem dX11_takeRecorded_15 : decode cX11_takeRecorded 15 = .ok (.getfield 20, 3) := by decide +kernel
theorem dX11_takeRecorded_18 : decode cX11_takeRecorded 18 = .ok (.aload_n 0, 1) := by decide +kernel
theorem dX11_takeRecorded_19 : decode cX11_takeRecorded 19 = .ok (.getfield 79, 3) := by decide +kernel
theorem dX11_takeRecorded_22 : decode cX11_takeRecorded 22 = .ok (.aload_n 0, 1) := by decide +kernel
theorem dX11_takeRecorded_23 : decode cX11_takeRecorded 23 = .ok (.getfield 72, 3) := by decide +kernel
theorem dX11_takeRecorded_26 : decode cX11_takeRecorded 26 = .ok (.invokevirtual 119, 3) := by decide +kernel
theorem dX11_takeRecorded_29 : decode cX11_takeRecorded 29 = .ok (.ifCond .eq 60, 3) := by decide +kernel
theorem dX11_takeRecorded_32 : decode cX11_takeRecorded 32 = .ok (.aload_n 0, 1) := by decide +kernel
theorem dX11_takeRecorded_33 : decode cX11_takeRecorded 33 = .ok (.getfield 39, 3) := by decide +kernel
theorem dX11_takeRecorded_36 : decode cX11_takeRecorded 36 = .ok (.aload_n 0, 1) := by decide +kernel
theorem dX11_takeRecorded_37 : decode cX11_takeRecorded 37 = .ok (.getfield 20, 3) := by decide +kernel
theorem dX11_takeRecorded_40 : decode cX11_takeRecorded 40 = .ok (.getfield 123, 3) := by decide +kernel
theorem dX11_takeRecorded_43 : decode cX11_takeRecorded 43 = .ok (.aload_n 0, 1) := by decide +kernel
theorem dX11_takeRecorded_44 : decode cX11_takeRecorded 44 = .ok (.getfield 79, 3) := by decide +kernel
theorem dX11_takeRecorded_47 : decode cX11_takeRecorded 47 = .ok (.iaload, 1) := by decide +kernel
theorem dX11_takeRecorded_48 : decode cX11_takeRecorded 48 = .ok (.aload_n 0, 1) := by decide +kernel
theorem dX11_takeRecorded_49 : decode cX11_takeRecorded 49 = .ok (.getfield 20, 3) := by decide +kernel
theorem dX11_takeRecorded_52 : decode cX11_takeRecorded 52 = .ok (.getfield 126, 3) := by decide +kernel
theorem dX11_takeRecorded_55 : decode cX11_takeRecorded 55 = .ok (.aload_n 0, 1) := by decide +kernel
theorem dX11_takeRecorded_56 : decode cX11_takeRecorded 56 = .ok (.getfield 79, 3) := by decide +kernel
theorem dX11_takeRecorded_59 : decode cX11_takeRecorded 59 = .ok (.laload, 1) := by decide +kernel
theorem dX11_takeRecorded_60 : decode cX11_takeRecorded 60 = .ok (.aload_n 0, 1) := by decide +kernel
theorem dX11_takeRecorded_61 : decode cX11_takeRecorded 61 = .ok (.getfield 20, 3) := by decide +kernel
theorem dX11_takeRecorded_64 : decode cX11_takeRecorded 64 = .ok (.getfield 130, 3) := by decide +kernel
theorem dX11_takeRecorded_67 : decode cX11_takeRecorded 67 = .ok (.aload_n 0, 1) := by decide +kernel
theorem dX11_takeRecorded_68 : decode cX11_takeRecorded 68 = .ok (.getfield 79, 3) := by decide +kernel
theorem dX11_takeRecorded_71 : decode cX11_takeRecorded 71 = .ok (.iaload, 1) := by decide +kernel
theorem dX11_takeRecorded_72 : decode cX11_takeRecorded 72 = .ok (.invokevirtual 133, 3) := by decide +kernel
theorem dX11_takeRecorded_75 : decode cX11_takeRecorded 75 = .ok (.pop, 1) := by decide +kernel
theorem dX11_takeRecorded_76 : decode cX11_takeRecorded 76 = .ok (.aload_n 0, 1) := by decide +kernel
theorem dX11_takeRecorded_77 : decode cX11_takeRecorded 77 = .ok (.dup, 1) := by decide +kernel
theorem dX11_takeRecorded_78 : decode cX11_takeRecorded 78 = .ok (.getfield 79, 3) := by decide +kernel
theorem dX11_takeRecorded_81 : decode cX11_takeRecorded 81 = .ok (.iconst 1, 1) := by decide +kernel
theorem dX11_takeRecorded_82 : decode cX11_takeRecorded 82 = .ok (.iadd, 1) := by decide +kernel
theorem dX11_takeRecorded_83 : decode cX11_takeRecorded 83 = .ok (.putfield 79, 3) := by decide +kernel
theorem dX11_takeRecorded_86 : decode cX11_takeRecorded 86 = .ok (.goto (-86), 3) := by decide +kernel
theorem dX11_takeRecorded_89 : decode cX11_takeRecorded 89 = .ok (.return_, 1) := by decide +kernel
theorem dX11_takeScheduled_0 : decode cX11_takeScheduled 0 = .ok (.aload_n 0, 1) := by decide +kernel
theorem dX11_takeScheduled_1 : decode cX11_takeScheduled 1 = .ok (.getfield 20, 3) := by decide +kernel
theorem dX11_takeScheduled_4 : decode cX11_takeScheduled 4 = .ok (.getfield 116, 3) := by decide +kernel
theorem dX11_takeScheduled_7 : decode cX11_takeScheduled 7 = .ok (.aload_n 0, 1) := by decide +kernel
theorem dX11_takeScheduled_8 : decode cX11_takeScheduled 8 = .ok (.getfield 20, 3) := by decide +kernel
theorem dX11_takeScheduled_11 : decode cX11_takeScheduled 11 = .ok (.getfield 137, 3) := by decide +kernel
theorem dX11_takeScheduled_14 : decode cX11_takeScheduled 14 = .ok (.if_icmp .ge 117, 3) := by decide +kernel
theorem dX11_takeScheduled_17 : decode cX11_takeScheduled 17 = .ok (.aload_n 0, 1) := by decide +kernel
theorem dX11_takeScheduled_18 : decode cX11_takeScheduled 18 = .ok (.getfield 20, 3) := by decide +kernel
theorem dX11_takeScheduled_21 : decode cX11_takeScheduled 21 = .ok (.aload_n 0, 1) := by decide +kernel
theorem dX11_takeScheduled_22 : decode cX11_takeScheduled 22 = .ok (.getfield 20, 3) := by decide +kernel
theorem dX11_takeScheduled_25 : decode cX11_takeScheduled 25 = .ok (.getfield 116, 3) := by decide +kernel
theorem dX11_takeScheduled_28 : decode cX11_takeScheduled 28 = .ok (.aload_n 0, 1) := by decide +kernel
theorem dX11_takeScheduled_29 : decode cX11_takeScheduled 29 = .ok (.getfield 76, 3) := by decide +kernel
theorem dX11_takeScheduled_32 : decode cX11_takeScheduled 32 = .ok (.invokevirtual 119, 3) := by decide +kernel
theorem dX11_takeScheduled_35 : decode cX11_takeScheduled 35 = .ok (.ifCond .eq 96, 3) := by decide +kernel
theorem dX11_takeScheduled_38 : decode cX11_takeScheduled 38 = .ok (.aload_n 0, 1) := by decide +kernel
theorem dX11_takeScheduled_39 : decode cX11_takeScheduled 39 = .ok (.getfield 20, 3) := by decide +kernel
theorem dX11_takeScheduled_42 : decode cX11_takeScheduled 42 = .ok (.getfield 116, 3) := by decide +kernel
theorem dX11_takeScheduled_45 : decode cX11_takeScheduled 45 = .ok (.istore_n 1, 1) := by decide +kernel
theorem dX11_takeScheduled_46 : decode cX11_takeScheduled 46 = .ok (.aload_n 0, 1) := by decide +kernel
theorem dX11_takeScheduled_47 : decode cX11_takeScheduled 47 = .ok (.getfield 39, 3) := by decide +kernel
theorem dX11_takeScheduled_50 : decode cX11_takeScheduled 50 = .ok (.aload_n 0, 1) := by decide +kernel
theorem dX11_takeScheduled_51 : decode cX11_takeScheduled 51 = .ok (.getfield 20, 3) := by decide +kernel
theorem dX11_takeScheduled_54 : decode cX11_takeScheduled 54 = .ok (.getfield 123, 3) := by decide +kernel
theorem dX11_takeScheduled_57 : decode cX11_takeScheduled 57 = .ok (.iload_n 1, 1) := by decide +kernel
theorem dX11_takeScheduled_58 : decode cX11_takeScheduled 58 = .ok (.iaload, 1) := by decide +kernel
theorem dX11_takeScheduled_59 : decode cX11_takeScheduled 59 = .ok (.aload_n 0, 1) := by decide +kernel
theorem dX11_takeScheduled_60 : decode cX11_takeScheduled 60 = .ok (.getfield 20, 3) := by decide +kernel
theorem dX11_takeScheduled_63 : decode cX11_takeScheduled 63 = .ok (.getfield 126, 3) := by decide +kernel
theorem dX11_takeScheduled_66 : decode cX11_takeScheduled 66 = .ok (.iload_n 1, 1) := by decide +kernel
theorem dX11_takeScheduled_67 : decode cX11_takeScheduled 67 = .ok (.laload, 1) := by decide +kernel
theorem dX11_takeScheduled_68 : decode cX11_takeScheduled 68 = .ok (.aload_n 0, 1) := by decide +kernel
theorem dX11_takeScheduled_69 : decode cX11_takeScheduled 69 = .ok (.getfield 20, 3) := by decide +kernel
theorem dX11_takeScheduled_72 : decode cX11_takeScheduled 72 = .ok (.getfield 130, 3) := by decide +kernel
theorem dX11_takeScheduled_75 : decode cX11_takeScheduled 75 = .ok (.iload_n 1, 1) := by decide +kernel
theorem dX11_takeScheduled_76 : decode cX11_takeScheduled 76 = .ok (.iaload, 1) := by decide +kernel
theorem dX11_takeScheduled_77 : decode cX11_takeScheduled 77 = .ok (.invokevirtual 133, 3) := by decide +kernel
theorem dX11_takeScheduled_80 : decode cX11_takeScheduled 80 = .ok (.ifCond .eq 29, 3) := by decide +kernel
theorem dX11_takeScheduled_83 : decode cX11_takeScheduled 83 = .ok (.aload_n 0, 1) := by decide +kernel
theorem dX11_takeScheduled_84 : decode cX11_takeScheduled 84 = .ok (.getfield 20, 3) := by decide +kernel
theorem dX11_takeScheduled_87 : decode cX11_takeScheduled 87 = .ok (.dup, 1) := by decide +kernel
theorem dX11_takeScheduled_88 : decode cX11_takeScheduled 88 = .ok (.getfield 116, 3) := by decide +kernel
theorem dX11_takeScheduled_91 : decode cX11_takeScheduled 91 = .ok (.iconst 1, 1) := by decide +kernel
theorem dX11_takeScheduled_92 : decode cX11_takeScheduled 92 = .ok (.iadd, 1) := by decide +kernel
theorem dX11_takeScheduled_93 : decode cX11_takeScheduled 93 = .ok (.putfield 116, 3) := by decide +kernel
theorem dX11_takeScheduled_96 : decode cX11_takeScheduled 96 = .ok (.aload_n 0, 1) := by decide +kernel
theorem dX11_takeScheduled_97 : decode cX11_takeScheduled 97 = .ok (.dup, 1) := by decide +kernel
theorem dX11_takeScheduled_98 : decode cX11_takeScheduled 98 = .ok (.getfield 79, 3) := by decide +kernel
theorem dX11_takeScheduled_101 : decode cX11_takeScheduled 101 = .ok (.iconst 1, 1) := by decide +kernel
theorem dX11_takeScheduled_102 : decode cX11_takeScheduled 102 = .ok (.iadd, 1) := by decide +kernel
theorem dX11_takeScheduled_103 : decode cX11_takeScheduled 103 = .ok (.putfield 79, 3) := by decide +kernel
theorem dX11_takeScheduled_106 : decode cX11_takeScheduled 106 = .ok (.goto 22, 3) := by decide +kernel
theorem dX11_takeScheduled_109 : decode cX11_takeScheduled 109 = .ok (.aload_n 0, 1) := by decide +kernel
theorem dX11_takeScheduled_110 : decode cX11_takeScheduled 110 = .ok (.getfield 20, 3) := by decide +kernel
theorem dX11_takeScheduled_113 : decode cX11_takeScheduled 113 = .ok (.aload_n 0, 1) := by decide +kernel
theorem dX11_takeScheduled_114 : decode cX11_takeScheduled 114 = .ok (.getfield 20, 3) := by decide +kernel
theorem dX11_takeScheduled_117 : decode cX11_takeScheduled 117 = .ok (.getfield 116, 3) := by decide +kernel
theorem dX11_takeScheduled_120 : decode cX11_takeScheduled 120 = .ok (.putfield 137, 3) := by decide +kernel
theorem dX11_takeScheduled_123 : decode cX11_takeScheduled 123 = .ok (.aload_n 0, 1) := by decide +kernel
theorem dX11_takeScheduled_124 : decode cX11_takeScheduled 124 = .ok (.iconst 1, 1) := by decide +kernel
theorem dX11_takeScheduled_125 : decode cX11_takeScheduled 125 = .ok (.putfield 82, 3) := by decide +kernel
theorem dX11_takeScheduled_128 : decode cX11_takeScheduled 128 = .ok (.goto (-128), 3) := by decide +kernel
theorem dX11_takeScheduled_131 : decode cX11_takeScheduled 131 = .ok (.return_, 1) := by decide +kernel
theorem dX11_come_0 : decode cX11_come 0 = .ok (.aload_n 0, 1) := by decide +kernel
theorem dX11_come_1 : decode cX11_come 1 = .ok (.getfield 72, 3) := by decide +kernel
theorem dX11_come_4 : decode cX11_come 4 = .ok (.aload_n 0, 1) := by decide +kernel
theorem dX11_come_5 : decode cX11_come 5 = .ok (.getfield 76, 3) := by decide +kernel
theorem dX11_come_8 : decode cX11_come 8 = .ok (.if_icmp .ne 20, 3) := by decide +kernel
theorem dX11_come_11 : decode cX11_come 11 = .ok (.aload_n 0, 1) := by decide +kernel
theorem dX11_come_12 : decode cX11_come 12 = .ok (.getfield 20, 3) := by decide +kernel
theorem dX11_come_15 : decode cX11_come 15 = .ok (.getfield 116, 3) := by decide +kernel
theorem dX11_come_18 : decode cX11_come 18 = .ok (.aload_n 0, 1) := by decide +kernel
theorem dX11_come_19 : decode cX11_come 19 = .ok (.getfield 20, 3) := by decide +kernel
theorem dX11_come_22 : decode cX11_come 22 = .ok (.getfield 137, 3) := by decide +kernel
theorem dX11_come_25 : decode cX11_come 25 = .ok (.if_icmp .ge 5, 3) := by decide +kernel
theorem dX11_come_28 : decode cX11_come 28 = .ok (.iconst 2, 1) := by decide +kernel
theorem dX11_come_29 : decode cX11_come 29 = .ok (.ireturn, 1) := by decide +kernel
theorem dX11_come_30 : decode cX11_come 30 = .ok (.aload_n 0, 1) := by decide +kernel
theorem dX11_come_31 : decode cX11_come 31 = .ok (.getfield 20, 3) := by decide +kernel
theorem dX11_come_34 : decode cX11_come 34 = .ok (.getfield 116, 3) := by decide +kernel
theorem dX11_come_37 : decode cX11_come 37 = .ok (.sipush 2048, 3) := by decide +kernel
theorem dX11_come_40 : decode cX11_come 40 = .ok (.if_icmp .lt 5, 3) := by decide +kernel
theorem dX11_come_43 : decode cX11_come 43 = .ok (.iconst 3, 1) := by decide +kernel
theorem dX11_come_44 : decode cX11_come 44 = .ok (.ireturn, 1) := by decide +kernel
theorem dX11_come_45 : decode cX11_come 45 = .ok (.aload_n 0, 1) := by decide +kernel
theorem dX11_come_46 : decode cX11_come 46 = .ok (.getfield 39, 3) := by decide +kernel
theorem dX11_come_49 : decode cX11_come 49 = .ok (.iload_n 1, 1) := by decide +kernel
theorem dX11_come_50 : decode cX11_come 50 = .ok (.lload_n 2, 1) := by decide +kernel
theorem dX11_come_51 : decode cX11_come 51 = .ok (.iload 4, 2) := by decide +kernel
theorem dX11_come_53 : decode cX11_come 53 = .ok (.invokevirtual 133, 3) := by decide +kernel
theorem dX11_come_56 : decode cX11_come 56 = .ok (.ifCond .ne 5, 3) := by decide +kernel
theorem dX11_come_59 : decode cX11_come 59 = .ok (.iconst 1, 1) := by decide +kernel
theorem dX11_come_60 : decode cX11_come 60 = .ok (.ireturn, 1) := by decide +kernel
theorem dX11_come_61 : decode cX11_come 61 = .ok (.aload_n 0, 1) := by decide +kernel
theorem dX11_come_62 : decode cX11_come 62 = .ok (.getfield 20, 3) := by decide +kernel
theorem dX11_come_65 : decode cX11_come 65 = .ok (.iload_n 1, 1) := by decide +kernel
theorem dX11_come_66 : decode cX11_come 66 = .ok (.aload_n 0, 1) := by decide +kernel
theorem dX11_come_67 : decode cX11_come 67 = .ok (.getfield 72, 3) := by decide +kernel
theorem dX11_come_70 : decode cX11_come 70 = .ok (.i2l, 1) := by decide +kernel
theorem dX11_come_71 : decode cX11_come 71 = .ok (.lload_n 2, 1) := by decide +kernel
theorem dX11_come_72 : decode cX11_come 72 = .ok (.iload 4, 2) := by decide +kernel
theorem dX11_come_74 : decode cX11_come 74 = .ok (.invokevirtual 140, 3) := by decide +kernel
theorem dX11_come_77 : decode cX11_come 77 = .ok (.pop, 1) := by decide +kernel
theorem dX11_come_78 : decode cX11_come 78 = .ok (.aload_n 0, 1) := by decide +kernel
theorem dX11_come_79 : decode cX11_come 79 = .ok (.getfield 20, 3) := by decide +kernel
theorem dX11_come_82 : decode cX11_come 82 = .ok (.aload_n 0, 1) := by decide +kernel
theorem dX11_come_83 : decode cX11_come 83 = .ok (.getfield 20, 3) := by decide +kernel
theorem dX11_come_86 : decode cX11_come 86 = .ok (.getfield 137, 3) := by decide +kernel
theorem dX11_come_89 : decode cX11_come 89 = .ok (.putfield 116, 3) := by decide +kernel
theorem dX11_come_92 : decode cX11_come 92 = .ok (.aload_n 0, 1) := by decide +kernel
theorem dX11_come_93 : decode cX11_come 93 = .ok (.aload_n 0, 1) := by decide +kernel
theorem dX11_come_94 : decode cX11_come 94 = .ok (.getfield 20, 3) := by decide +kernel
theorem dX11_come_97 : decode cX11_come 97 = .ok (.getfield 116, 3) := by decide +kernel
theorem dX11_come_100 : decode cX11_come 100 = .ok (.putfield 79, 3) := by decide +kernel
theorem dX11_come_103 : decode cX11_come 103 = .ok (.iconst 0, 1) := by decide +kernel
theorem dX11_come_104 : decode cX11_come 104 = .ok (.ireturn, 1) := by decide +kernel
theorem dX11_ticks_0 : decode cX11_ticks 0 = .ok (.aload_n 0, 1) := by decide +kernel
theorem dX11_ticks_1 : decode cX11_ticks 1 = .ok (.getfield 82, 3) := by decide +kernel
theorem dX11_ticks_4 : decode cX11_ticks 4 = .ok (.ifCond .eq 15, 3) := by decide +kernel
theorem dX11_ticks_7 : decode cX11_ticks 7 = .ok (.aload_n 0, 1) := by decide +kernel
theorem dX11_ticks_8 : decode cX11_ticks 8 = .ok (.iconst 0, 1) := by decide +kernel
theorem dX11_ticks_9 : decode cX11_ticks 9 = .ok (.putfield 82, 3) := by decide +kernel
theorem dX11_ticks_12 : decode cX11_ticks 12 = .ok (.aload_n 0, 1) := by decide +kernel
theorem dX11_ticks_13 : decode cX11_ticks 13 = .ok (.iconst 5, 1) := by decide +kernel
theorem dX11_ticks_14 : decode cX11_ticks 14 = .ok (.putfield 144, 3) := by decide +kernel
theorem dX11_ticks_17 : decode cX11_ticks 17 = .ok (.iconst 0, 1) := by decide +kernel
theorem dX11_ticks_18 : decode cX11_ticks 18 = .ok (.ireturn, 1) := by decide +kernel
theorem dX11_ticks_19 : decode cX11_ticks 19 = .ok (.iconst 0, 1) := by decide +kernel
theorem dX11_ticks_20 : decode cX11_ticks 20 = .ok (.istore_n 3, 1) := by decide +kernel
theorem dX11_ticks_21 : decode cX11_ticks 21 = .ok (.iload_n 3, 1) := by decide +kernel
theorem dX11_ticks_22 : decode cX11_ticks 22 = .ok (.iload_n 1, 1) := by decide +kernel
theorem dX11_ticks_23 : decode cX11_ticks 23 = .ok (.if_icmp .ge 71, 3) := by decide +kernel
theorem dX11_ticks_26 : decode cX11_ticks 26 = .ok (.aload_n 0, 1) := by decide +kernel
theorem dX11_ticks_27 : decode cX11_ticks 27 = .ok (.aload_n 0, 1) := by decide +kernel
theorem dX11_ticks_28 : decode cX11_ticks 28 = .ok (.invokevirtual 147, 3) := by decide +kernel
theorem dX11_ticks_31 : decode cX11_ticks 31 = .ok (.putfield 144, 3) := by decide +kernel
theorem dX11_ticks_34 : decode cX11_ticks 34 = .ok (.aload_n 0, 1) := by decide +kernel
theorem dX11_ticks_35 : decode cX11_ticks 35 = .ok (.getfield 144, 3) := by decide +kernel
theorem dX11_ticks_38 : decode cX11_ticks 38 = .ok (.ifCond .eq 5, 3) := by decide +kernel
theorem dX11_ticks_41 : decode cX11_ticks 41 = .ok (.iload_n 3, 1) := by decide +kernel
theorem dX11_ticks_42 : decode cX11_ticks 42 = .ok (.ireturn, 1) := by decide +kernel
theorem dX11_ticks_43 : decode cX11_ticks 43 = .ok (.aload_n 0, 1) := by decide +kernel
theorem dX11_ticks_44 : decode cX11_ticks 44 = .ok (.aload_n 2, 1) := by decide +kernel
