theorem dX5_init_0 : decode cX5_init 0 = .ok (.aload_n 0, 1) := by decide +kernel
theorem dX5_init_1 : decode cX5_init 1 = .ok (.invokespecial 3, 3) := by decide +kernel
theorem dX5_init_4 : decode cX5_init 4 = .ok (.return_, 1) := by decide +kernel
theorem dX5_write_0 : decode cX5_write 0 = .ok (.aload_n 0, 1) := by decide +kernel
theorem dX5_write_1 : decode cX5_write 1 = .ok (.iload_n 2, 1) := by decide +kernel
theorem dX5_write_2 : decode cX5_write 2 = .ok (.putfield 9, 3) := by decide +kernel
theorem dX5_write_5 : decode cX5_write 5 = .ok (.aload_n 0, 1) := by decide +kernel
theorem dX5_write_6 : decode cX5_write 6 = .ok (.iconst 0, 1) := by decide +kernel
theorem dX5_write_7 : decode cX5_write 7 = .ok (.putfield 15, 3) := by decide +kernel
theorem dX5_write_10 : decode cX5_write 10 = .ok (.aload_n 0, 1) := by decide +kernel
theorem dX5_write_11 : decode cX5_write 11 = .ok (.bipush (-2), 2) := by decide +kernel
theorem dX5_write_13 : decode cX5_write 13 = .ok (.putfield 18, 3) := by decide +kernel
theorem dX5_write_16 : decode cX5_write 16 = .ok (.aload_n 0, 1) := by decide +kernel
theorem dX5_write_17 : decode cX5_write 17 = .ok (.aload_n 1, 1) := by decide +kernel
theorem dX5_write_18 : decode cX5_write 18 = .ok (.invokevirtual 21, 3) := by decide +kernel
theorem dX5_write_21 : decode cX5_write 21 = .ok (.iconst 0, 1) := by decide +kernel
theorem dX5_write_22 : decode cX5_write 22 = .ok (.istore_n 3, 1) := by decide +kernel
theorem dX5_write_23 : decode cX5_write 23 = .ok (.iload_n 3, 1) := by decide +kernel
theorem dX5_write_24 : decode cX5_write 24 = .ok (.bipush 8, 2) := by decide +kernel
theorem dX5_write_26 : decode cX5_write 26 = .ok (.if_icmp .ge 31, 3) := by decide +kernel
theorem dX5_write_29 : decode cX5_write 29 = .ok (.aload_n 1, 1) := by decide +kernel
theorem dX5_write_30 : decode cX5_write 30 = .ok (.getfield 25, 3) := by decide +kernel
theorem dX5_write_33 : decode cX5_write 33 = .ok (.iload_n 3, 1) := by decide +kernel
theorem dX5_write_34 : decode cX5_write 34 = .ok (.iaload, 1) := by decide +kernel
theorem dX5_write_35 : decode cX5_write 35 = .ok (.ifCond .eq 16, 3) := by decide +kernel
theorem dX5_write_38 : decode cX5_write 38 = .ok (.aload_n 0, 1) := by decide +kernel
theorem dX5_write_39 : decode cX5_write 39 = .ok (.ldc 31, 2) := by decide +kernel
theorem dX5_write_41 : decode cX5_write 41 = .ok (.iload_n 3, 1) := by decide +kernel
theorem dX5_write_42 : decode cX5_write 42 = .ok (.aload_n 1, 1) := by decide +kernel
theorem dX5_write_43 : decode cX5_write 43 = .ok (.getfield 25, 3) := by decide +kernel
theorem dX5_write_46 : decode cX5_write 46 = .ok (.iload_n 3, 1) := by decide +kernel
theorem dX5_write_47 : decode cX5_write 47 = .ok (.iaload, 1) := by decide +kernel
theorem dX5_write_48 : decode cX5_write 48 = .ok (.invokevirtual 33, 3) := by decide +kernel
theorem dX5_write_51 : decode cX5_write 51 = .ok (.iinc 3 1, 3) := by decide +kernel
theorem dX5_write_54 : decode cX5_write 54 = .ok (.goto (-31), 3) := by decide +kernel
theorem dX5_write_57 : decode cX5_write 57 = .ok (.iconst 0, 1) := by decide +kernel
theorem dX5_write_58 : decode cX5_write 58 = .ok (.istore_n 3, 1) := by decide +kernel
theorem dX5_write_59 : decode cX5_write 59 = .ok (.iload_n 3, 1) := by decide +kernel
theorem dX5_write_60 : decode cX5_write 60 = .ok (.bipush 8, 2) := by decide +kernel
theorem dX5_write_62 : decode cX5_write 62 = .ok (.if_icmp .ge 32, 3) := by decide +kernel
theorem dX5_write_65 : decode cX5_write 65 = .ok (.aload_n 1, 1) := by decide +kernel
theorem dX5_write_66 : decode cX5_write 66 = .ok (.getfield 37, 3) := by decide +kernel
theorem dX5_write_69 : decode cX5_write 69 = .ok (.iload_n 3, 1) := by decide +kernel
theorem dX5_write_70 : decode cX5_write 70 = .ok (.iaload, 1) := by decide +kernel
theorem dX5_write_71 : decode cX5_write 71 = .ok (.iload_n 3, 1) := by decide +kernel
theorem dX5_write_72 : decode cX5_write 72 = .ok (.if_icmp .eq 16, 3) := by decide +kernel
theorem dX5_write_75 : decode cX5_write 75 = .ok (.aload_n 0, 1) := by decide +kernel
theorem dX5_write_76 : decode cX5_write 76 = .ok (.ldc 40, 2) := by decide +kernel
theorem dX5_write_78 : decode cX5_write 78 = .ok (.iload_n 3, 1) := by decide +kernel
theorem dX5_write_79 : decode cX5_write 79 = .ok (.aload_n 1, 1) := by decide +kernel
theorem dX5_write_80 : decode cX5_write 80 = .ok (.getfield 37, 3) := by decide +kernel
theorem dX5_write_83 : decode cX5_write 83 = .ok (.iload_n 3, 1) := by decide +kernel
theorem dX5_write_84 : decode cX5_write 84 = .ok (.iaload, 1) := by decide +kernel
theorem dX5_write_85 : decode cX5_write 85 = .ok (.invokevirtual 33, 3) := by decide +kernel
theorem dX5_write_88 : decode cX5_write 88 = .ok (.iinc 3 1, 3) := by decide +kernel
theorem dX5_write_91 : decode cX5_write 91 = .ok (.goto (-32), 3) := by decide +kernel
theorem dX5_write_94 : decode cX5_write 94 = .ok (.iconst 0, 1) := by decide +kernel
theorem dX5_write_95 : decode cX5_write 95 = .ok (.istore_n 3, 1) := by decide +kernel
theorem dX5_write_96 : decode cX5_write 96 = .ok (.iload_n 3, 1) := by decide +kernel
theorem dX5_write_97 : decode cX5_write 97 = .ok (.aload_n 1, 1) := by decide +kernel
theorem dX5_write_98 : decode cX5_write 98 = .ok (.getfield 42, 3) := by decide +kernel
theorem dX5_write_101 : decode cX5_write 101 = .ok (.if_icmp .ge 31, 3) := by decide +kernel
theorem dX5_write_104 : decode cX5_write 104 = .ok (.aload_n 0, 1) := by decide +kernel
theorem dX5_write_105 : decode cX5_write 105 = .ok (.aload_n 1, 1) := by decide +kernel
theorem dX5_write_106 : decode cX5_write 106 = .ok (.getfield 45, 3) := by decide +kernel
theorem dX5_write_109 : decode cX5_write 109 = .ok (.iload_n 3, 1) := by decide +kernel
theorem dX5_write_110 : decode cX5_write 110 = .ok (.iaload, 1) := by decide +kernel
theorem dX5_write_111 : decode cX5_write 111 = .ok (.aload_n 1, 1) := by decide +kernel
theorem dX5_write_112 : decode cX5_write 112 = .ok (.getfield 48, 3) := by decide +kernel
theorem dX5_write_115 : decode cX5_write 115 = .ok (.iload_n 3, 1) := by decide +kernel
theorem dX5_write_116 : decode cX5_write 116 = .ok (.iaload, 1) := by decide +kernel
theorem dX5_write_117 : decode cX5_write 117 = .ok (.aload_n 1, 1) := by decide +kernel
theorem dX5_write_118 : decode cX5_write 118 = .ok (.getfield 51, 3) := by decide +kernel
theorem dX5_write_121 : decode cX5_write 121 = .ok (.iload_n 3, 1) := by decide +kernel
theorem dX5_write_122 : decode cX5_write 122 = .ok (.iaload, 1) := by decide +kernel
theorem dX5_write_123 : decode cX5_write 123 = .ok (.invokevirtual 54, 3) := by decide +kernel
theorem dX5_write_126 : decode cX5_write 126 = .ok (.iinc 3 1, 3) := by decide +kernel
theorem dX5_write_129 : decode cX5_write 129 = .ok (.goto (-33), 3) := by decide +kernel
theorem dX5_write_132 : decode cX5_write 132 = .ok (.return_, 1) := by decide +kernel
theorem dX5_writeTerms_0 : decode cX5_writeTerms 0 = .ok (.aload_n 0, 1) := by decide +kernel
theorem dX5_writeTerms_1 : decode cX5_writeTerms 1 = .ok (.ldc 58, 2) := by decide +kernel
theorem dX5_writeTerms_3 : decode cX5_writeTerms 3 = .ok (.invokevirtual 60, 3) := by decide +kernel
theorem dX5_writeTerms_6 : decode cX5_writeTerms 6 = .ok (.aload_n 0, 1) := by decide +kernel
theorem dX5_writeTerms_7 : decode cX5_writeTerms 7 = .ok (.aload_n 1, 1) := by decide +kernel
theorem dX5_writeTerms_8 : decode cX5_writeTerms 8 = .ok (.getfield 64, 3) := by decide +kernel
theorem dX5_writeTerms_11 : decode cX5_writeTerms 11 = .ok (.iconst 0, 1) := by decide +kernel
theorem dX5_writeTerms_12 : decode cX5_writeTerms 12 = .ok (.iaload, 1) := by decide +kernel
theorem dX5_writeTerms_13 : decode cX5_writeTerms 13 = .ok (.invokevirtual 67, 3) := by decide +kernel
theorem dX5_writeTerms_16 : decode cX5_writeTerms 16 = .ok (.aload_n 0, 1) := by decide +kernel
theorem dX5_writeTerms_17 : decode cX5_writeTerms 17 = .ok (.ldc 71, 2) := by decide +kernel
theorem dX5_writeTerms_19 : decode cX5_writeTerms 19 = .ok (.invokevirtual 60, 3) := by decide +kernel
theorem dX5_writeTerms_22 : decode cX5_writeTerms 22 = .ok (.aload_n 0, 1) := by decide +kernel
theorem dX5_writeTerms_23 : decode cX5_writeTerms 23 = .ok (.aload_n 1, 1) := by decide +kernel
theorem dX5_writeTerms_24 : decode cX5_writeTerms 24 = .ok (.getfield 64, 3) := by decide +kernel
theorem dX5_writeTerms_27 : decode cX5_writeTerms 27 = .ok (.iconst 1, 1) := by decide +kernel
theorem dX5_writeTerms_28 : decode cX5_writeTerms 28 = .ok (.iaload, 1) := by decide +kernel
theorem dX5_writeTerms_29 : decode cX5_writeTerms 29 = .ok (.invokevirtual 67, 3) := by decide +kernel
theorem dX5_writeTerms_32 : decode cX5_writeTerms 32 = .ok (.aload_n 0, 1) := by decide +kernel
theorem dX5_writeTerms_33 : decode cX5_writeTerms 33 = .ok (.ldc 73, 2) := by decide +kernel
theorem dX5_writeTerms_35 : decode cX5_writeTerms 35 = .ok (.invokevirtual 60, 3) := by decide +kernel
theorem dX5_writeTerms_38 : decode cX5_writeTerms 38 = .ok (.aload_n 0, 1) := by decide +kernel
theorem dX5_writeTerms_39 : decode cX5_writeTerms 39 = .ok (.aload_n 1, 1) := by decide +kernel
theorem dX5_writeTerms_40 : decode cX5_writeTerms 40 = .ok (.getfield 64, 3) := by decide +kernel
theorem dX5_writeTerms_43 : decode cX5_writeTerms 43 = .ok (.iconst 2, 1) := by decide +kernel
theorem dX5_writeTerms_44 : decode cX5_writeTerms 44 = .ok (.iaload, 1) := by decide +kernel
theorem dX5_writeTerms_45 : decode cX5_writeTerms 45 = .ok (.invokevirtual 67, 3) := by decide +kernel
theorem dX5_writeTerms_48 : decode cX5_writeTerms 48 = .ok (.aload_n 0, 1) := by decide +kernel
theorem dX5_writeTerms_49 : decode cX5_writeTerms 49 = .ok (.ldc 75, 2) := by decide +kernel
theorem dX5_writeTerms_51 : decode cX5_writeTerms 51 = .ok (.invokevirtual 60, 3) := by decide +kernel
theorem dX5_writeTerms_54 : decode cX5_writeTerms 54 = .ok (.aload_n 0, 1) := by decide +kernel
theorem dX5_writeTerms_55 : decode cX5_writeTerms 55 = .ok (.aload_n 1, 1) := by decide +kernel
theorem dX5_writeTerms_56 : decode cX5_writeTerms 56 = .ok (.getfield 64, 3) := by decide +kernel
theorem dX5_writeTerms_59 : decode cX5_writeTerms 59 = .ok (.iconst 3, 1) := by decide +kernel
theorem dX5_writeTerms_60 : decode cX5_writeTerms 60 = .ok (.iaload, 1) := by decide +kernel
theorem dX5_writeTerms_61 : decode cX5_writeTerms 61 = .ok (.invokevirtual 67, 3) := by decide +kernel
theorem dX5_writeTerms_64 : decode cX5_writeTerms 64 = .ok (.aload_n 0, 1) := by decide +kernel
theorem dX5_writeTerms_65 : decode cX5_writeTerms 65 = .ok (.ldc 77, 2) := by decide +kernel
theorem dX5_writeTerms_67 : decode cX5_writeTerms 67 = .ok (.invokevirtual 60, 3) := by decide +kernel
theorem dX5_writeTerms_70 : decode cX5_writeTerms 70 = .ok (.aload_n 0, 1) := by decide +kernel
theorem dX5_writeTerms_71 : decode cX5_writeTerms 71 = .ok (.aload_n 1, 1) := by decide +kernel
theorem dX5_writeTerms_72 : decode cX5_writeTerms 72 = .ok (.getfield 64, 3) := by decide +kernel
theorem dX5_writeTerms_75 : decode cX5_writeTerms 75 = .ok (.iconst 4, 1) := by decide +kernel
theorem dX5_writeTerms_76 : decode cX5_writeTerms 76 = .ok (.iaload, 1) := by decide +kernel
theorem dX5_writeTerms_77 : decode cX5_writeTerms 77 = .ok (.invokevirtual 67, 3) := by decide +kernel
theorem dX5_writeTerms_80 : decode cX5_writeTerms 80 = .ok (.aload_n 0, 1) := by decide +kernel
theorem dX5_writeTerms_81 : decode cX5_writeTerms 81 = .ok (.ldc 79, 2) := by decide +kernel
theorem dX5_writeTerms_83 : decode cX5_writeTerms 83 = .ok (.invokevirtual 60, 3) := by decide +kernel
theorem dX5_writeTerms_86 : decode cX5_writeTerms 86 = .ok (.aload_n 0, 1) := by decide +kernel
theorem dX5_writeTerms_87 : decode cX5_writeTerms 87 = .ok (.aload_n 1, 1) := by decide +kernel
theorem dX5_writeTerms_88 : decode cX5_writeTerms 88 = .ok (.getfield 64, 3) := by decide +kernel
theorem dX5_writeTerms_91 : decode cX5_writeTerms 91 = .ok (.iconst 5, 1) := by decide +kernel
theorem dX5_writeTerms_92 : decode cX5_writeTerms 92 = .ok (.iaload, 1) := by decide +kernel
theorem dX5_writeTerms_93 : decode cX5_writeTerms 93 = .ok (.invokevirtual 67, 3) := by decide +kernel
theorem dX5_writeTerms_96 : decode cX5_writeTerms 96 = .ok (.aload_n 0, 1) := by decide +kernel
theorem dX5_writeTerms_97 : decode cX5_writeTerms 97 = .ok (.aload_n 1, 1) := by decide +kernel
theorem dX5_writeTerms_98 : decode cX5_writeTerms 98 = .ok (.getfield 64, 3) := by decide +kernel
theorem dX5_writeTerms_101 : decode cX5_writeTerms 101 = .ok (.bipush 6, 2) := by decide +kernel
theorem dX5_writeTerms_103 : decode cX5_writeTerms 103 = .ok (.iaload, 1) := by decide +kernel
theorem dX5_writeTerms_104 : decode cX5_writeTerms 104 = .ok (.iconst 1, 1) := by decide +kernel
theorem dX5_writeTerms_105 : decode cX5_writeTerms 105 = .ok (.if_icmp .ne 8, 3) := by decide +kernel
theorem dX5_writeTerms_108 : decode cX5_writeTerms 108 = .ok (.ldc 81, 2) := by decide +kernel
theorem dX5_writeTerms_110 : decode cX5_writeTerms 110 = .ok (.goto 5, 3) := by decide +kernel
theorem dX5_writeTerms_113 : decode cX5_writeTerms 113 = .ok (.ldc 83, 2) := by decide +kernel
theorem dX5_writeTerms_115 : decode cX5_writeTerms 115 = .ok (.invokevirtual 60, 3) := by decide +kernel
theorem dX5_writeTerms_118 : decode cX5_writeTerms 118 = .ok (.return_, 1) := by decide +kernel
theorem dX5_writePair_0 : decode cX5_writePair 0 = .ok (.aload_n 0, 1) := by decide +kernel
theorem dX5_writePair_1 : decode cX5_writePair 1 = .ok (.aload_n 1, 1) := by decide +kernel
theorem dX5_writePair_2 : decode cX5_writePair 2 = .ok (.invokevirtual 60, 3) := by decide +kernel
theorem dX5_writePair_5 : decode cX5_writePair 5 = .ok (.aload_n 0, 1) := by decide +kernel
theorem dX5_writePair_6 : decode cX5_writePair 6 = .ok (.iload_n 2, 1) := by decide +kernel
theorem dX5_writePair_7 : decode cX5_writePair 7 = .ok (.invokevirtual 67, 3) := by decide +kernel
theorem dX5_writePair_10 : decode cX5_writePair 10 = .ok (.aload_n 0, 1) := by decide +kernel
theorem dX5_writePair_11 : decode cX5_writePair 11 = .ok (.ldc 85, 2) := by decide +kernel
theorem dX5_writePair_13 : decode cX5_writePair 13 = .ok (.invokevirtual 60, 3) := by decide +kernel
theorem dX5_writePair_16 : decode cX5_writePair 16 = .ok (.aload_n 0, 1) := by decide +kernel
theorem dX5_writePair_17 : decode cX5_writePair 17 = .ok (.iload_n 3, 1) := by decide +kernel
theorem dX5_writePair_18 : decode cX5_writePair 18 = .ok (.invokevirtual 67, 3) := by decide +kernel
theorem dX5_writePair_21 : decode cX5_writePair 21 = .ok (.aload_n 0, 1) := by decide +kernel
theorem dX5_writePair_22 : decode cX5_writePair 22 = .ok (.ldc 87, 2) := by decide +kernel
theorem dX5_writePair_24 : decode cX5_writePair 24 = .ok (.invokevirtual 60, 3) := by decide +kernel
theorem dX5_writePair_27 : decode cX5_writePair 27 = .ok (.return_, 1) := by decide +kernel
theorem dX5_writeBid_0 : decode cX5_writeBid 0 = .ok (.aload_n 0, 1) := by decide +kernel
theorem dX5_writeBid_1 : decode cX5_writeBid 1 = .ok (.iload_n 2, 1) := by decide +kernel
theorem dX5_writeBid_2 : decode cX5_writeBid 2 = .ok (.iconst (-1), 1) := by decide +kernel
theorem dX5_writeBid_3 : decode cX5_writeBid 3 = .ok (.if_icmp .ne 8, 3) := by decide +kernel
theorem dX5_writeBid_6 : decode cX5_writeBid 6 = .ok (.ldc 89, 2) := by decide +kernel
theorem dX5_writeBid_8 : decode cX5_writeBid 8 = .ok (.goto 5, 3) := by decide +kernel
theorem dX5_writeBid_11 : decode cX5_writeBid 11 = .ok (.ldc 91, 2) := by decide +kernel
theorem dX5_writeBid_13 : decode cX5_writeBid 13 = .ok (.invokevirtual 60, 3) := by decide +kernel
theorem dX5_writeBid_16 : decode cX5_writeBid 16 = .ok (.aload_n 0, 1) := by decide +kernel
theorem dX5_writeBid_17 : decode cX5_writeBid 17 = .ok (.iload_n 1, 1) := by decide +kernel
theorem dX5_writeBid_18 : decode cX5_writeBid 18 = .ok (.invokevirtual 67, 3) := by decide +kernel
theorem dX5_writeBid_21 : decode cX5_writeBid 21 = .ok (.iload_n 2, 1) := by decide +kernel
theorem dX5_writeBid_22 : decode cX5_writeBid 22 = .ok (.iconst (-1), 1) := by decide +kernel
theorem dX5_writeBid_23 : decode cX5_writeBid 23 = .ok (.if_icmp .eq 14, 3) := by decide +kernel
theorem dX5_writeBid_26 : decode cX5_writeBid 26 = .ok (.aload_n 0, 1) := by decide +kernel
theorem dX5_writeBid_27 : decode cX5_writeBid 27 = .ok (.ldc 85, 2) := by decide +kernel
theorem dX5_writeBid_29 : decode cX5_writeBid 29 = .ok (.invokevirtual 60, 3) := by decide +kernel
theorem dX5_writeBid_32 : decode cX5_writeBid 32 = .ok (.aload_n 0, 1) := by decide +kernel
theorem dX5_writeBid_33 : decode cX5_writeBid 33 = .ok (.iload_n 2, 1) := by decide +kernel
theorem dX5_writeBid_34 : decode cX5_writeBid 34 = .ok (.invokevirtual 67, 3) := by decide +kernel
theorem dX5_writeBid_37 : decode cX5_writeBid 37 = .ok (.aload_n 0, 1) := by decide +kernel
theorem dX5_writeBid_38 : decode cX5_writeBid 38 = .ok (.ldc 93, 2) := by decide +kernel
theorem dX5_writeBid_40 : decode cX5_writeBid 40 = .ok (.invokevirtual 60, 3) := by decide +kernel
theorem dX5_writeBid_43 : decode cX5_writeBid 43 = .ok (.aload_n 0, 1) := by decide +kernel
theorem dX5_writeBid_44 : decode cX5_writeBid 44 = .ok (.iload_n 3, 1) := by decide +kernel
theorem dX5_writeBid_45 : decode cX5_writeBid 45 = .ok (.invokevirtual 67, 3) := by decide +kernel
theorem dX5_writeBid_48 : decode cX5_writeBid 48 = .ok (.aload_n 0, 1) := by decide +kernel
theorem dX5_writeBid_49 : decode cX5_writeBid 49 = .ok (.ldc 87, 2) := by decide +kernel
theorem dX5_writeBid_51 : decode cX5_writeBid 51 = .ok (.invokevirtual 60, 3) := by decide +kernel
theorem dX5_writeBid_54 : decode cX5_writeBid 54 = .ok (.return_, 1) := by decide +kernel
theorem dX5_writeSigns_0 : decode cX5_writeSigns 0 = .ok (.iconst 0, 1) := by decide +kernel
theorem dX5_writeSigns_1 : decode cX5_writeSigns 1 = .ok (.istore_n 2, 1) := by decide +kernel
theorem dX5_writeSigns_2 : decode cX5_writeSigns 2 = .ok (.iload_n 2, 1) := by decide +kernel
theorem dX5_writeSigns_3 : decode cX5_writeSigns 3 = .ok (.aload_n 1, 1) := by decide +kernel
theorem dX5_writeSigns_4 : decode cX5_writeSigns 4 = .ok (.invokevirtual 95, 3) := by decide +kernel
theorem dX5_writeSigns_7 : decode cX5_writeSigns 7 = .ok (.if_icmp .ge 18, 3) := by decide +kernel
theorem dX5_writeSigns_10 : decode cX5_writeSigns 10 = .ok (.aload_n 0, 1) := by decide +kernel
theorem dX5_writeSigns_11 : decode cX5_writeSigns 11 = .ok (.aload_n 1, 1) := by decide +kernel
theorem dX5_writeSigns_12 : decode cX5_writeSigns 12 = .ok (.iload_n 2, 1) := by decide +kernel
theorem dX5_writeSigns_13 : decode cX5_writeSigns 13 = .ok (.invokevirtual 100, 3) := by decide +kernel
theorem dX5_writeSigns_16 : decode cX5_writeSigns 16 = .ok (.invokevirtual 104, 3) := by decide +kernel
theorem dX5_writeSigns_19 : decode cX5_writeSigns 19 = .ok (.iinc 2 1, 3) := by decide +kernel
theorem dX5_writeSigns_22 : decode cX5_writeSigns 22 = .ok (.goto (-20), 3) := by decide +kernel
theorem dX5_writeSigns_25 : decode cX5_writeSigns 25 = .ok (.return_, 1) := by decide +kernel
theorem dX5_writeNumber_0 : decode cX5_writeNumber 0 = .ok (.iconst 0, 1) := by decide +kernel
theorem dX5_writeNumber_1 : decode cX5_writeNumber 1 = .ok (.istore_n 2, 1) := by decide +kernel
theorem dX5_writeNumber_2 : decode cX5_writeNumber 2 = .ok (.sipush 10000, 3) := by decide +kernel
theorem dX5_writeNumber_5 : decode cX5_writeNumber 5 = .ok (.istore_n 3, 1) := by decide +kernel
theorem dX5_writeNumber_6 : decode cX5_writeNumber 6 = .ok (.iload_n 3, 1) := by decide +kernel
theorem dX5_writeNumber_7 : decode cX5_writeNumber 7 = .ok (.ifCond .le 52, 3) := by decide +kernel
theorem dX5_writeNumber_10 : decode cX5_writeNumber 10 = .ok (.iload_n 1, 1) := by decide +kernel
theorem dX5_writeNumber_11 : decode cX5_writeNumber 11 = .ok (.iload_n 3, 1) := by decide +kernel
theorem dX5_writeNumber_12 : decode cX5_writeNumber 12 = .ok (.idiv, 1) := by decide +kernel
theorem dX5_writeNumber_13 : decode cX5_writeNumber 13 = .ok (.bipush 10, 2) := by decide +kernel
theorem dX5_writeNumber_15 : decode cX5_writeNumber 15 = .ok (.irem, 1) := by decide +kernel
theorem dX5_writeNumber_16 : decode cX5_writeNumber 16 = .ok (.istore 4, 2) := by decide +kernel
theorem dX5_writeNumber_18 : decode cX5_writeNumber 18 = .ok (.iload_n 2, 1) := by decide +kernel
theorem dX5_writeNumber_19 : decode cX5_writeNumber 19 = .ok (.ifCond .ne 13, 3) := by decide +kernel
theorem dX5_writeNumber_22 : decode cX5_writeNumber 22 = .ok (.iload 4, 2) := by decide +kernel
theorem dX5_writeNumber_24 : decode cX5_writeNumber 24 = .ok (.ifCond .gt 8, 3) := by decide +kernel
theorem dX5_writeNumber_27 : decode cX5_writeNumber 27 = .ok (.iload_n 3, 1) := by decide +kernel
theorem dX5_writeNumber_28 : decode cX5_writeNumber 28 = .ok (.iconst 1, 1) := by decide +kernel
theorem dX5_writeNumber_29 : decode cX5_writeNumber 29 = .ok (.if_icmp .ne 7, 3) := by decide +kernel
theorem dX5_writeNumber_32 : decode cX5_writeNumber 32 = .ok (.iconst 1, 1) := by decide +kernel
theorem dX5_writeNumber_33 : decode cX5_writeNumber 33 = .ok (.goto 4, 3) := by decide +kernel
theorem dX5_writeNumber_36 : decode cX5_writeNumber 36 = .ok (.iconst 0, 1) := by decide +kernel
theorem dX5_writeNumber_37 : decode cX5_writeNumber 37 = .ok (.istore_n 2, 1) := by decide +kernel
theorem dX5_writeNumber_38 : decode cX5_writeNumber 38 = .ok (.iload_n 2, 1) := by decide +kernel
theorem dX5_writeNumber_39 : decode cX5_writeNumber 39 = .ok (.ifCond .eq 12, 3) := by decide +kernel
theorem dX5_writeNumber_42 : decode cX5_writeNumber 42 = .ok (.aload_n 0, 1) := by decide +kernel
theorem dX5_writeNumber_43 : decode cX5_writeNumber 43 = .ok (.bipush 48, 2) := by decide +kernel
theorem dX5_writeNumber_45 : decode cX5_writeNumber 45 = .ok (.iload 4, 2) := by decide +kernel
theorem dX5_writeNumber_47 : decode cX5_writeNumber 47 = .ok (.iadd, 1) := by decide +kernel
theorem dX5_writeNumber_48 : decode cX5_writeNumber 48 = .ok (.invokevirtual 104, 3) := by decide +kernel
theorem dX5_writeNumber_51 : decode cX5_writeNumber 51 = .ok (.iload_n 3, 1) := by decide +kernel
theorem dX5_writeNumber_52 : decode cX5_writeNumber 52 = .ok (.bipush 10, 2) := by decide +kernel
theorem dX5_writeNumber_54 : decode cX5_writeNumber 54 = .ok (.idiv, 1) := by decide +kernel
theorem dX5_writeNumber_55 : decode cX5_writeNumber 55 = .ok (.istore_n 3, 1) := by decide +kernel
theorem dX5_writeNumber_56 : decode cX5_writeNumber 56 = .ok (.goto (-50), 3) := by decide +kernel
theorem dX5_writeNumber_59 : decode cX5_writeNumber 59 = .ok (.return_, 1) := by decide +kernel
theorem dX5_writeSign_0 : decode cX5_writeSign 0 = .ok (.aload_n 0, 1) := by decide +kernel
theorem dX5_writeSign_1 : decode cX5_writeSign 1 = .ok (.getfield 15, 3) := by decide +kernel
theorem dX5_writeSign_4 : decode cX5_writeSign 4 = .ok (.aload_n 0, 1) := by decide +kernel
theorem dX5_writeSign_5 : decode cX5_writeSign 5 = .ok (.getfield 9, 3) := by decide +kernel
theorem dX5_writeSign_8 : decode cX5_writeSign 8 = .ok (.if_icmp .ne 8, 3) := by decide +kernel
theorem dX5_writeSign_11 : decode cX5_writeSign 11 = .ok (.aload_n 0, 1) := by decide +kernel
theorem dX5_writeSign_12 : decode cX5_writeSign 12 = .ok (.iload_n 1, 1) := by decide +kernel
theorem dX5_writeSign_13 : decode cX5_writeSign 13 = .ok (.putfield 18, 3) := by decide +kernel
theorem dX5_writeSign_16 : decode cX5_writeSign 16 = .ok (.aload_n 0, 1) := by decide +kernel
theorem dX5_writeSign_17 : decode cX5_writeSign 17 = .ok (.dup, 1) := by decide +kernel
theorem dX5_writeSign_18 : decode cX5_writeSign 18 = .ok (.getfield 15, 3) := by decide +kernel
theorem dX5_writeSign_21 : decode cX5_writeSign 21 = .ok (.iconst 1, 1) := by decide +kernel
theorem dX5_writeSign_22 : decode cX5_writeSign 22 = .ok (.iadd, 1) := by decide +kernel
theorem dX5_writeSign_23 : decode cX5_writeSign 23 = .ok (.putfield 15, 3) := by decide +kernel
theorem dX5_writeSign_26 : decode cX5_writeSign 26 = .ok (.return_, 1) := by decide +kernel
