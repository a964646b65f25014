theorem dX0_mostOf_0 : decode cX0_mostOf 0 = .ok (.iconst 0, 1) := by decide +kernel
theorem dX0_mostOf_1 : decode cX0_mostOf 1 = .ok (.istore_n 3, 1) := by decide +kernel
theorem dX0_mostOf_2 : decode cX0_mostOf 2 = .ok (.iload_n 3, 1) := by decide +kernel
theorem dX0_mostOf_3 : decode cX0_mostOf 3 = .ok (.iload_n 2, 1) := by decide +kernel
theorem dX0_mostOf_4 : decode cX0_mostOf 4 = .ok (.if_icmp .ge 17, 3) := by decide +kernel
theorem dX0_mostOf_7 : decode cX0_mostOf 7 = .ok (.iload_n 1, 1) := by decide +kernel
theorem dX0_mostOf_8 : decode cX0_mostOf 8 = .ok (.iload_n 3, 1) := by decide +kernel
theorem dX0_mostOf_9 : decode cX0_mostOf 9 = .ok (.ishr, 1) := by decide +kernel
theorem dX0_mostOf_10 : decode cX0_mostOf 10 = .ok (.iconst 1, 1) := by decide +kernel
theorem dX0_mostOf_11 : decode cX0_mostOf 11 = .ok (.iand, 1) := by decide +kernel
theorem dX0_mostOf_12 : decode cX0_mostOf 12 = .ok (.ifCond .ne 9, 3) := by decide +kernel
theorem dX0_mostOf_15 : decode cX0_mostOf 15 = .ok (.iinc 3 1, 3) := by decide +kernel
theorem dX0_mostOf_18 : decode cX0_mostOf 18 = .ok (.goto (-16), 3) := by decide +kernel
theorem dX0_mostOf_21 : decode cX0_mostOf 21 = .ok (.iload_n 1, 1) := by decide +kernel
theorem dX0_mostOf_22 : decode cX0_mostOf 22 = .ok (.iconst 1, 1) := by decide +kernel
theorem dX0_mostOf_23 : decode cX0_mostOf 23 = .ok (.iload_n 3, 1) := by decide +kernel
theorem dX0_mostOf_24 : decode cX0_mostOf 24 = .ok (.ishl, 1) := by decide +kernel
theorem dX0_mostOf_25 : decode cX0_mostOf 25 = .ok (.iconst (-1), 1) := by decide +kernel
theorem dX0_mostOf_26 : decode cX0_mostOf 26 = .ok (.ixor, 1) := by decide +kernel
theorem dX0_mostOf_27 : decode cX0_mostOf 27 = .ok (.iand, 1) := by decide +kernel
theorem dX0_mostOf_28 : decode cX0_mostOf 28 = .ok (.istore 4, 2) := by decide +kernel
theorem dX0_mostOf_30 : decode cX0_mostOf 30 = .ok (.aload_n 0, 1) := by decide +kernel
theorem dX0_mostOf_31 : decode cX0_mostOf 31 = .ok (.getfield 26, 3) := by decide +kernel
theorem dX0_mostOf_34 : decode cX0_mostOf 34 = .ok (.iload 4, 2) := by decide +kernel
theorem dX0_mostOf_36 : decode cX0_mostOf 36 = .ok (.iaload, 1) := by decide +kernel
theorem dX0_mostOf_37 : decode cX0_mostOf 37 = .ok (.istore 5, 2) := by decide +kernel
theorem dX0_mostOf_39 : decode cX0_mostOf 39 = .ok (.iload_n 3, 1) := by decide +kernel
theorem dX0_mostOf_40 : decode cX0_mostOf 40 = .ok (.iconst 1, 1) := by decide +kernel
theorem dX0_mostOf_41 : decode cX0_mostOf 41 = .ok (.iadd, 1) := by decide +kernel
theorem dX0_mostOf_42 : decode cX0_mostOf 42 = .ok (.istore 6, 2) := by decide +kernel
theorem dX0_mostOf_44 : decode cX0_mostOf 44 = .ok (.iload 6, 2) := by decide +kernel
theorem dX0_mostOf_46 : decode cX0_mostOf 46 = .ok (.iload_n 2, 1) := by decide +kernel
theorem dX0_mostOf_47 : decode cX0_mostOf 47 = .ok (.if_icmp .ge 48, 3) := by decide +kernel
theorem dX0_mostOf_50 : decode cX0_mostOf 50 = .ok (.iload 4, 2) := by decide +kernel
theorem dX0_mostOf_52 : decode cX0_mostOf 52 = .ok (.iload 6, 2) := by decide +kernel
theorem dX0_mostOf_54 : decode cX0_mostOf 54 = .ok (.ishr, 1) := by decide +kernel
theorem dX0_mostOf_55 : decode cX0_mostOf 55 = .ok (.iconst 1, 1) := by decide +kernel
theorem dX0_mostOf_56 : decode cX0_mostOf 56 = .ok (.iand, 1) := by decide +kernel
theorem dX0_mostOf_57 : decode cX0_mostOf 57 = .ok (.ifCond .eq 32, 3) := by decide +kernel
theorem dX0_mostOf_60 : decode cX0_mostOf 60 = .ok (.iload 5, 2) := by decide +kernel
theorem dX0_mostOf_62 : decode cX0_mostOf 62 = .ok (.aload_n 0, 1) := by decide +kernel
theorem dX0_mostOf_63 : decode cX0_mostOf 63 = .ok (.getfield 23, 3) := by decide +kernel
theorem dX0_mostOf_66 : decode cX0_mostOf 66 = .ok (.iload_n 3, 1) := by decide +kernel
theorem dX0_mostOf_67 : decode cX0_mostOf 67 = .ok (.aaload, 1) := by decide +kernel
theorem dX0_mostOf_68 : decode cX0_mostOf 68 = .ok (.iload 6, 2) := by decide +kernel
theorem dX0_mostOf_70 : decode cX0_mostOf 70 = .ok (.iaload, 1) := by decide +kernel
theorem dX0_mostOf_71 : decode cX0_mostOf 71 = .ok (.aload_n 0, 1) := by decide +kernel
theorem dX0_mostOf_72 : decode cX0_mostOf 72 = .ok (.getfield 26, 3) := by decide +kernel
theorem dX0_mostOf_75 : decode cX0_mostOf 75 = .ok (.iload 4, 2) := by decide +kernel
theorem dX0_mostOf_77 : decode cX0_mostOf 77 = .ok (.iconst 1, 1) := by decide +kernel
theorem dX0_mostOf_78 : decode cX0_mostOf 78 = .ok (.iload 6, 2) := by decide +kernel
theorem dX0_mostOf_80 : decode cX0_mostOf 80 = .ok (.ishl, 1) := by decide +kernel
theorem dX0_mostOf_81 : decode cX0_mostOf 81 = .ok (.ixor, 1) := by decide +kernel
theorem dX0_mostOf_82 : decode cX0_mostOf 82 = .ok (.iaload, 1) := by decide +kernel
theorem dX0_mostOf_83 : decode cX0_mostOf 83 = .ok (.iadd, 1) := by decide +kernel
theorem dX0_mostOf_84 : decode cX0_mostOf 84 = .ok (.invokestatic 58, 3) := by decide +kernel
theorem dX0_mostOf_87 : decode cX0_mostOf 87 = .ok (.istore 5, 2) := by decide +kernel
theorem dX0_mostOf_89 : decode cX0_mostOf 89 = .ok (.iinc 6 1, 3) := by decide +kernel
theorem dX0_mostOf_92 : decode cX0_mostOf 92 = .ok (.goto (-48), 3) := by decide +kernel
theorem dX0_mostOf_95 : decode cX0_mostOf 95 = .ok (.iload 5, 2) := by decide +kernel
theorem dX0_mostOf_97 : decode cX0_mostOf 97 = .ok (.ireturn, 1) := by decide +kernel
theorem dX0_firstPartner_0 : decode cX0_firstPartner 0 = .ok (.iload_n 1, 1) := by decide +kernel
theorem dX0_firstPartner_1 : decode cX0_firstPartner 1 = .ok (.iconst 1, 1) := by decide +kernel
theorem dX0_firstPartner_2 : decode cX0_firstPartner 2 = .ok (.iload_n 2, 1) := by decide +kernel
theorem dX0_firstPartner_3 : decode cX0_firstPartner 3 = .ok (.ishl, 1) := by decide +kernel
theorem dX0_firstPartner_4 : decode cX0_firstPartner 4 = .ok (.iconst (-1), 1) := by decide +kernel
theorem dX0_firstPartner_5 : decode cX0_firstPartner 5 = .ok (.ixor, 1) := by decide +kernel
theorem dX0_firstPartner_6 : decode cX0_firstPartner 6 = .ok (.iand, 1) := by decide +kernel
theorem dX0_firstPartner_7 : decode cX0_firstPartner 7 = .ok (.istore 4, 2) := by decide +kernel
theorem dX0_firstPartner_9 : decode cX0_firstPartner 9 = .ok (.aload_n 0, 1) := by decide +kernel
theorem dX0_firstPartner_10 : decode cX0_firstPartner 10 = .ok (.getfield 26, 3) := by decide +kernel
theorem dX0_firstPartner_13 : decode cX0_firstPartner 13 = .ok (.iload 4, 2) := by decide +kernel
theorem dX0_firstPartner_15 : decode cX0_firstPartner 15 = .ok (.iaload, 1) := by decide +kernel
theorem dX0_firstPartner_16 : decode cX0_firstPartner 16 = .ok (.aload_n 0, 1) := by decide +kernel
theorem dX0_firstPartner_17 : decode cX0_firstPartner 17 = .ok (.getfield 26, 3) := by decide +kernel
theorem dX0_firstPartner_20 : decode cX0_firstPartner 20 = .ok (.iload_n 1, 1) := by decide +kernel
theorem dX0_firstPartner_21 : decode cX0_firstPartner 21 = .ok (.iaload, 1) := by decide +kernel
theorem dX0_firstPartner_22 : decode cX0_firstPartner 22 = .ok (.if_icmp .ne 5, 3) := by decide +kernel
theorem dX0_firstPartner_25 : decode cX0_firstPartner 25 = .ok (.iconst (-1), 1) := by decide +kernel
theorem dX0_firstPartner_26 : decode cX0_firstPartner 26 = .ok (.ireturn, 1) := by decide +kernel
theorem dX0_firstPartner_27 : decode cX0_firstPartner 27 = .ok (.iload_n 2, 1) := by decide +kernel
theorem dX0_firstPartner_28 : decode cX0_firstPartner 28 = .ok (.iconst 1, 1) := by decide +kernel
theorem dX0_firstPartner_29 : decode cX0_firstPartner 29 = .ok (.iadd, 1) := by decide +kernel
theorem dX0_firstPartner_30 : decode cX0_firstPartner 30 = .ok (.istore 5, 2) := by decide +kernel
theorem dX0_firstPartner_32 : decode cX0_firstPartner 32 = .ok (.iload 5, 2) := by decide +kernel
theorem dX0_firstPartner_34 : decode cX0_firstPartner 34 = .ok (.iload_n 3, 1) := by decide +kernel
theorem dX0_firstPartner_35 : decode cX0_firstPartner 35 = .ok (.if_icmp .ge 65, 3) := by decide +kernel
theorem dX0_firstPartner_38 : decode cX0_firstPartner 38 = .ok (.iload 4, 2) := by decide +kernel
theorem dX0_firstPartner_40 : decode cX0_firstPartner 40 = .ok (.iload 5, 2) := by decide +kernel
theorem dX0_firstPartner_42 : decode cX0_firstPartner 42 = .ok (.ishr, 1) := by decide +kernel
theorem dX0_firstPartner_43 : decode cX0_firstPartner 43 = .ok (.iconst 1, 1) := by decide +kernel
theorem dX0_firstPartner_44 : decode cX0_firstPartner 44 = .ok (.iand, 1) := by decide +kernel
theorem dX0_firstPartner_45 : decode cX0_firstPartner 45 = .ok (.ifCond .eq 7, 3) := by decide +kernel
theorem dX0_firstPartner_48 : decode cX0_firstPartner 48 = .ok (.iconst 1, 1) := by decide +kernel
theorem dX0_firstPartner_49 : decode cX0_firstPartner 49 = .ok (.goto 4, 3) := by decide +kernel
theorem dX0_firstPartner_52 : decode cX0_firstPartner 52 = .ok (.iconst 0, 1) := by decide +kernel
theorem dX0_firstPartner_53 : decode cX0_firstPartner 53 = .ok (.istore 6, 2) := by decide +kernel
theorem dX0_firstPartner_55 : decode cX0_firstPartner 55 = .ok (.iload 6, 2) := by decide +kernel
theorem dX0_firstPartner_57 : decode cX0_firstPartner 57 = .ok (.ifCond .eq 37, 3) := by decide +kernel
theorem dX0_firstPartner_60 : decode cX0_firstPartner 60 = .ok (.aload_n 0, 1) := by decide +kernel
theorem dX0_firstPartner_61 : decode cX0_firstPartner 61 = .ok (.getfield 23, 3) := by decide +kernel
theorem dX0_firstPartner_64 : decode cX0_firstPartner 64 = .ok (.iload_n 2, 1) := by decide +kernel
theorem dX0_firstPartner_65 : decode cX0_firstPartner 65 = .ok (.aaload, 1) := by decide +kernel
theorem dX0_firstPartner_66 : decode cX0_firstPartner 66 = .ok (.iload 5, 2) := by decide +kernel
theorem dX0_firstPartner_68 : decode cX0_firstPartner 68 = .ok (.iaload, 1) := by decide +kernel
theorem dX0_firstPartner_69 : decode cX0_firstPartner 69 = .ok (.aload_n 0, 1) := by decide +kernel
theorem dX0_firstPartner_70 : decode cX0_firstPartner 70 = .ok (.getfield 26, 3) := by decide +kernel
theorem dX0_firstPartner_73 : decode cX0_firstPartner 73 = .ok (.iload 4, 2) := by decide +kernel
theorem dX0_firstPartner_75 : decode cX0_firstPartner 75 = .ok (.iconst 1, 1) := by decide +kernel
theorem dX0_firstPartner_76 : decode cX0_firstPartner 76 = .ok (.iload 5, 2) := by decide +kernel
theorem dX0_firstPartner_78 : decode cX0_firstPartner 78 = .ok (.ishl, 1) := by decide +kernel
theorem dX0_firstPartner_79 : decode cX0_firstPartner 79 = .ok (.ixor, 1) := by decide +kernel
theorem dX0_firstPartner_80 : decode cX0_firstPartner 80 = .ok (.iaload, 1) := by decide +kernel
theorem dX0_firstPartner_81 : decode cX0_firstPartner 81 = .ok (.iadd, 1) := by decide +kernel
theorem dX0_firstPartner_82 : decode cX0_firstPartner 82 = .ok (.aload_n 0, 1) := by decide +kernel
theorem dX0_firstPartner_83 : decode cX0_firstPartner 83 = .ok (.getfield 26, 3) := by decide +kernel
theorem dX0_firstPartner_86 : decode cX0_firstPartner 86 = .ok (.iload_n 1, 1) := by decide +kernel
theorem dX0_firstPartner_87 : decode cX0_firstPartner 87 = .ok (.iaload, 1) := by decide +kernel
theorem dX0_firstPartner_88 : decode cX0_firstPartner 88 = .ok (.if_icmp .ne 6, 3) := by decide +kernel
theorem dX0_firstPartner_91 : decode cX0_firstPartner 91 = .ok (.iload 5, 2) := by decide +kernel
theorem dX0_firstPartner_93 : decode cX0_firstPartner 93 = .ok (.ireturn, 1) := by decide +kernel
theorem dX0_firstPartner_94 : decode cX0_firstPartner 94 = .ok (.iinc 5 1, 3) := by decide +kernel
theorem dX0_firstPartner_97 : decode cX0_firstPartner 97 = .ok (.goto (-65), 3) := by decide +kernel
theorem dX0_firstPartner_100 : decode cX0_firstPartner 100 = .ok (.iconst (-1), 1) := by decide +kernel
theorem dX0_firstPartner_101 : decode cX0_firstPartner 101 = .ok (.ireturn, 1) := by decide +kernel
theorem dX0_partnerIn_0 : decode cX0_partnerIn 0 = .ok (.iload_n 1, 1) := by decide +kernel
theorem dX0_partnerIn_1 : decode cX0_partnerIn 1 = .ok (.istore 4, 2) := by decide +kernel
theorem dX0_partnerIn_3 : decode cX0_partnerIn 3 = .ok (.iconst 0, 1) := by decide +kernel
theorem dX0_partnerIn_4 : decode cX0_partnerIn 4 = .ok (.istore 5, 2) := by decide +kernel
theorem dX0_partnerIn_6 : decode cX0_partnerIn 6 = .ok (.iload 5, 2) := by decide +kernel
theorem dX0_partnerIn_8 : decode cX0_partnerIn 8 = .ok (.iload_n 2, 1) := by decide +kernel
theorem dX0_partnerIn_9 : decode cX0_partnerIn 9 = .ok (.if_icmp .ge 84, 3) := by decide +kernel
theorem dX0_partnerIn_12 : decode cX0_partnerIn 12 = .ok (.iload 4, 2) := by decide +kernel
theorem dX0_partnerIn_14 : decode cX0_partnerIn 14 = .ok (.iload 5, 2) := by decide +kernel
theorem dX0_partnerIn_16 : decode cX0_partnerIn 16 = .ok (.ishr, 1) := by decide +kernel
theorem dX0_partnerIn_17 : decode cX0_partnerIn 17 = .ok (.iconst 1, 1) := by decide +kernel
theorem dX0_partnerIn_18 : decode cX0_partnerIn 18 = .ok (.iand, 1) := by decide +kernel
theorem dX0_partnerIn_19 : decode cX0_partnerIn 19 = .ok (.ifCond .eq 68, 3) := by decide +kernel
theorem dX0_partnerIn_22 : decode cX0_partnerIn 22 = .ok (.aload_n 0, 1) := by decide +kernel
theorem dX0_partnerIn_23 : decode cX0_partnerIn 23 = .ok (.iload 4, 2) := by decide +kernel
theorem dX0_partnerIn_25 : decode cX0_partnerIn 25 = .ok (.iload 5, 2) := by decide +kernel
theorem dX0_partnerIn_27 : decode cX0_partnerIn 27 = .ok (.iload_n 2, 1) := by decide +kernel
theorem dX0_partnerIn_28 : decode cX0_partnerIn 28 = .ok (.invokevirtual 76, 3) := by decide +kernel
theorem dX0_partnerIn_31 : decode cX0_partnerIn 31 = .ok (.istore 6, 2) := by decide +kernel
theorem dX0_partnerIn_33 : decode cX0_partnerIn 33 = .ok (.iload 5, 2) := by decide +kernel
theorem dX0_partnerIn_35 : decode cX0_partnerIn 35 = .ok (.iload_n 3, 1) := by decide +kernel
theorem dX0_partnerIn_36 : decode cX0_partnerIn 36 = .ok (.if_icmp .eq 9, 3) := by decide +kernel
theorem dX0_partnerIn_39 : decode cX0_partnerIn 39 = .ok (.iload 6, 2) := by decide +kernel
theorem dX0_partnerIn_41 : decode cX0_partnerIn 41 = .ok (.iload_n 3, 1) := by decide +kernel
theorem dX0_partnerIn_42 : decode cX0_partnerIn 42 = .ok (.if_icmp .ne 17, 3) := by decide +kernel
theorem dX0_partnerIn_45 : decode cX0_partnerIn 45 = .ok (.iload 5, 2) := by decide +kernel
theorem dX0_partnerIn_47 : decode cX0_partnerIn 47 = .ok (.iload_n 3, 1) := by decide +kernel
theorem dX0_partnerIn_48 : decode cX0_partnerIn 48 = .ok (.if_icmp .ne 8, 3) := by decide +kernel
theorem dX0_partnerIn_51 : decode cX0_partnerIn 51 = .ok (.iload 6, 2) := by decide +kernel
theorem dX0_partnerIn_53 : decode cX0_partnerIn 53 = .ok (.goto 5, 3) := by decide +kernel
theorem dX0_partnerIn_56 : decode cX0_partnerIn 56 = .ok (.iload 5, 2) := by decide +kernel
theorem dX0_partnerIn_58 : decode cX0_partnerIn 58 = .ok (.ireturn, 1) := by decide +kernel
theorem dX0_partnerIn_59 : decode cX0_partnerIn 59 = .ok (.iload 4, 2) := by decide +kernel
theorem dX0_partnerIn_61 : decode cX0_partnerIn 61 = .ok (.iconst 1, 1) := by decide +kernel
theorem dX0_partnerIn_62 : decode cX0_partnerIn 62 = .ok (.iload 5, 2) := by decide +kernel
theorem dX0_partnerIn_64 : decode cX0_partnerIn 64 = .ok (.ishl, 1) := by decide +kernel
theorem dX0_partnerIn_65 : decode cX0_partnerIn 65 = .ok (.iconst (-1), 1) := by decide +kernel
theorem dX0_partnerIn_66 : decode cX0_partnerIn 66 = .ok (.ixor, 1) := by decide +kernel
theorem dX0_partnerIn_67 : decode cX0_partnerIn 67 = .ok (.iand, 1) := by decide +kernel
theorem dX0_partnerIn_68 : decode cX0_partnerIn 68 = .ok (.istore 4, 2) := by decide +kernel
theorem dX0_partnerIn_70 : decode cX0_partnerIn 70 = .ok (.iload 6, 2) := by decide +kernel
theorem dX0_partnerIn_72 : decode cX0_partnerIn 72 = .ok (.iconst (-1), 1) := by decide +kernel
theorem dX0_partnerIn_73 : decode cX0_partnerIn 73 = .ok (.if_icmp .eq 14, 3) := by decide +kernel
theorem dX0_partnerIn_76 : decode cX0_partnerIn 76 = .ok (.iload 4, 2) := by decide +kernel
theorem dX0_partnerIn_78 : decode cX0_partnerIn 78 = .ok (.iconst 1, 1) := by decide +kernel
theorem dX0_partnerIn_79 : decode cX0_partnerIn 79 = .ok (.iload 6, 2) := by decide +kernel
theorem dX0_partnerIn_81 : decode cX0_partnerIn 81 = .ok (.ishl, 1) := by decide +kernel
theorem dX0_partnerIn_82 : decode cX0_partnerIn 82 = .ok (.iconst (-1), 1) := by decide +kernel
theorem dX0_partnerIn_83 : decode cX0_partnerIn 83 = .ok (.ixor, 1) := by decide +kernel
theorem dX0_partnerIn_84 : decode cX0_partnerIn 84 = .ok (.iand, 1) := by decide +kernel
theorem dX0_partnerIn_85 : decode cX0_partnerIn 85 = .ok (.istore 4, 2) := by decide +kernel
theorem dX0_partnerIn_87 : decode cX0_partnerIn 87 = .ok (.iinc 5 1, 3) := by decide +kernel
theorem dX0_partnerIn_90 : decode cX0_partnerIn 90 = .ok (.goto (-84), 3) := by decide +kernel
theorem dX0_partnerIn_93 : decode cX0_partnerIn 93 = .ok (.iconst (-1), 1) := by decide +kernel
theorem dX0_partnerIn_94 : decode cX0_partnerIn 94 = .ok (.ireturn, 1) := by decide +kernel
theorem dX0_pairing_0 : decode cX0_pairing 0 = .ok (.bipush 8, 2) := by decide +kernel
theorem dX0_pairing_2 : decode cX0_pairing 2 = .ok (.aload_n 1, 1) := by decide +kernel
theorem dX0_pairing_3 : decode cX0_pairing 3 = .ok (.getfield 32, 3) := by decide +kernel
theorem dX0_pairing_6 : decode cX0_pairing 6 = .ok (.invokestatic 38, 3) := by decide +kernel
theorem dX0_pairing_9 : decode cX0_pairing 9 = .ok (.istore_n 3, 1) := by decide +kernel
theorem dX0_pairing_10 : decode cX0_pairing 10 = .ok (.iconst 0, 1) := by decide +kernel
theorem dX0_pairing_11 : decode cX0_pairing 11 = .ok (.istore 4, 2) := by decide +kernel
theorem dX0_pairing_13 : decode cX0_pairing 13 = .ok (.iload 4, 2) := by decide +kernel
theorem dX0_pairing_15 : decode cX0_pairing 15 = .ok (.iload_n 3, 1) := by decide +kernel
theorem dX0_pairing_16 : decode cX0_pairing 16 = .ok (.if_icmp .ge 51, 3) := by decide +kernel
theorem dX0_pairing_19 : decode cX0_pairing 19 = .ok (.iconst 0, 1) := by decide +kernel
theorem dX0_pairing_20 : decode cX0_pairing 20 = .ok (.istore 5, 2) := by decide +kernel
theorem dX0_pairing_22 : decode cX0_pairing 22 = .ok (.iload 5, 2) := by decide +kernel
theorem dX0_pairing_24 : decode cX0_pairing 24 = .ok (.iload_n 3, 1) := by decide +kernel
theorem dX0_pairing_25 : decode cX0_pairing 25 = .ok (.if_icmp .ge 36, 3) := by decide +kernel
theorem dX0_pairing_28 : decode cX0_pairing 28 = .ok (.aload_n 0, 1) := by decide +kernel
theorem dX0_pairing_29 : decode cX0_pairing 29 = .ok (.getfield 23, 3) := by decide +kernel
theorem dX0_pairing_32 : decode cX0_pairing 32 = .ok (.iload 4, 2) := by decide +kernel
theorem dX0_pairing_34 : decode cX0_pairing 34 = .ok (.aaload, 1) := by decide +kernel
theorem dX0_pairing_35 : decode cX0_pairing 35 = .ok (.iload 5, 2) := by decide +kernel
theorem dX0_pairing_37 : decode cX0_pairing 37 = .ok (.aload_n 1, 1) := by decide +kernel
theorem dX0_pairing_38 : decode cX0_pairing 38 = .ok (.getfield 44, 3) := by decide +kernel
theorem dX0_pairing_41 : decode cX0_pairing 41 = .ok (.iload 4, 2) := by decide +kernel
theorem dX0_pairing_43 : decode cX0_pairing 43 = .ok (.aaload, 1) := by decide +kernel
theorem dX0_pairing_44 : decode cX0_pairing 44 = .ok (.aload_n 1, 1) := by decide +kernel
theorem dX0_pairing_45 : decode cX0_pairing 45 = .ok (.getfield 44, 3) := by decide +kernel
theorem dX0_pairing_48 : decode cX0_pairing 48 = .ok (.iload 5, 2) := by decide +kernel
theorem dX0_pairing_50 : decode cX0_pairing 50 = .ok (.aaload, 1) := by decide +kernel
theorem dX0_pairing_51 : decode cX0_pairing 51 = .ok (.invokevirtual 65, 3) := by decide +kernel
theorem dX0_pairing_54 : decode cX0_pairing 54 = .ok (.iastore, 1) := by decide +kernel
theorem dX0_pairing_55 : decode cX0_pairing 55 = .ok (.iinc 5 1, 3) := by decide +kernel
theorem dX0_pairing_58 : decode cX0_pairing 58 = .ok (.goto (-36), 3) := by decide +kernel
theorem dX0_pairing_61 : decode cX0_pairing 61 = .ok (.iinc 4 1, 3) := by decide +kernel
theorem dX0_pairing_64 : decode cX0_pairing 64 = .ok (.goto (-51), 3) := by decide +kernel
theorem dX0_pairing_67 : decode cX0_pairing 67 = .ok (.aload_n 0, 1) := by decide +kernel
theorem dX0_pairing_68 : decode cX0_pairing 68 = .ok (.getfield 26, 3) := by decide +kernel
theorem dX0_pairing_71 : decode cX0_pairing 71 = .ok (.iconst 0, 1) := by decide +kernel
theorem dX0_pairing_72 : decode cX0_pairing 72 = .ok (.iconst 0, 1) := by decide +kernel
theorem dX0_pairing_73 : decode cX0_pairing 73 = .ok (.iastore, 1) := by decide +kernel
theorem dX0_pairing_74 : decode cX0_pairing 74 = .ok (.iconst 1, 1) := by decide +kernel
theorem dX0_pairing_75 : decode cX0_pairing 75 = .ok (.istore 4, 2) := by decide +kernel
theorem dX0_pairing_77 : decode cX0_pairing 77 = .ok (.iload 4, 2) := by decide +kernel
theorem dX0_pairing_79 : decode cX0_pairing 79 = .ok (.iconst 1, 1) := by decide +kernel
theorem dX0_pairing_80 : decode cX0_pairing 80 = .ok (.iload_n 3, 1) := by decide +kernel
theorem dX0_pairing_81 : decode cX0_pairing 81 = .ok (.ishl, 1) := by decide +kernel
theorem dX0_pairing_82 : decode cX0_pairing 82 = .ok (.if_icmp .ge 23, 3) := by decide +kernel
theorem dX0_pairing_85 : decode cX0_pairing 85 = .ok (.aload_n 0, 1) := by decide +kernel
theorem dX0_pairing_86 : decode cX0_pairing 86 = .ok (.getfield 26, 3) := by decide +kernel
theorem dX0_pairing_89 : decode cX0_pairing 89 = .ok (.iload 4, 2) := by decide +kernel
theorem dX0_pairing_91 : decode cX0_pairing 91 = .ok (.aload_n 0, 1) := by decide +kernel
theorem dX0_pairing_92 : decode cX0_pairing 92 = .ok (.iload 4, 2) := by decide +kernel
theorem dX0_pairing_94 : decode cX0_pairing 94 = .ok (.iload_n 3, 1) := by decide +kernel
theorem dX0_pairing_95 : decode cX0_pairing 95 = .ok (.invokevirtual 69, 3) := by decide +kernel
theorem dX0_pairing_98 : decode cX0_pairing 98 = .ok (.iastore, 1) := by decide +kernel
theorem dX0_pairing_99 : decode cX0_pairing 99 = .ok (.iinc 4 1, 3) := by decide +kernel
theorem dX0_pairing_102 : decode cX0_pairing 102 = .ok (.goto (-25), 3) := by decide +kernel
theorem dX0_pairing_105 : decode cX0_pairing 105 = .ok (.iconst 1, 1) := by decide +kernel
theorem dX0_pairing_106 : decode cX0_pairing 106 = .ok (.iload_n 3, 1) := by decide +kernel
theorem dX0_pairing_107 : decode cX0_pairing 107 = .ok (.ishl, 1) := by decide +kernel
theorem dX0_pairing_108 : decode cX0_pairing 108 = .ok (.iconst 1, 1) := by decide +kernel
theorem dX0_pairing_109 : decode cX0_pairing 109 = .ok (.isub, 1) := by decide +kernel
theorem dX0_pairing_110 : decode cX0_pairing 110 = .ok (.istore 4, 2) := by decide +kernel
theorem dX0_pairing_112 : decode cX0_pairing 112 = .ok (.iload_n 2, 1) := by decide +kernel
theorem dX0_pairing_113 : decode cX0_pairing 113 = .ok (.iconst (-1), 1) := by decide +kernel
theorem dX0_pairing_114 : decode cX0_pairing 114 = .ok (.if_icmp .ne 13, 3) := by decide +kernel
theorem dX0_pairing_117 : decode cX0_pairing 117 = .ok (.aload_n 0, 1) := by decide +kernel
theorem dX0_pairing_118 : decode cX0_pairing 118 = .ok (.getfield 26, 3) := by decide +kernel
theorem dX0_pairing_121 : decode cX0_pairing 121 = .ok (.iload 4, 2) := by decide +kernel
theorem dX0_pairing_123 : decode cX0_pairing 123 = .ok (.iaload, 1) := by decide +kernel
theorem dX0_pairing_124 : decode cX0_pairing 124 = .ok (.goto 11, 3) := by decide +kernel
theorem dX0_pairing_127 : decode cX0_pairing 127 = .ok (.aload_n 0, 1) := by decide +kernel
theorem dX0_pairing_128 : decode cX0_pairing 128 = .ok (.iload 4, 2) := by decide +kernel
theorem dX0_pairing_130 : decode cX0_pairing 130 = .ok (.iload_n 3, 1) := by decide +kernel
theorem dX0_pairing_131 : decode cX0_pairing 131 = .ok (.iload_n 2, 1) := by decide +kernel
theorem dX0_pairing_132 : decode cX0_pairing 132 = .ok (.invokevirtual 72, 3) := by decide +kernel
theorem dX0_pairing_135 : decode cX0_pairing 135 = .ok (.ireturn, 1) := by decide +kernel
section PRS
variable {I I' : Nat → Int → Int} {w : Int → Int} {c : Nat}
theorem xbit {a r : Nat} (ha : a < 2147483648) (hr : r < 31) : xand (xshr (a : Int) (r : Int)) 1 = bI (a.testBit r) := by
  by_cases h : a.testBit r = true
  · rw [(xhas ha (by omega)).mpr h, h]; rfl
  · have h1 : xand (xshr (a : Int) (r : Int)) 1 ≠ 1 := fun q => h ((xhas ha (by omega)).mp q)
    have h2 : a.testBit r = false := by cases e : a.testBit r <;> simp_all
    have h3 : a >>> r ≤ a := Nat.shiftRight_le a r
    have h4 : xand (xshr (a : Int) (r : Int)) 1 = (((a >>> r) &&& 1 : Nat) : Int) := by rw [xshr_nat ha (by omega)]; exact xand_nat (b := 1) (by omega) (by omega)
    rw [h4, Nat.and_one_is_mod] at h1
    rw [h4, h2, Nat.and_one_is_mod]
    show _ = (0 : Int)
    omega
theorem nF_0 : ∀ s : Fin 256, ∀ f : Fin 8, (∀ r : Fin 8, r < f → s.val.testBit r.val = false) → s.val.testBit f.val = true → nF s.val = f.val := by decide +kernel
theorem nF_f {s f : Nat} (hs : s < 256) (hf : f < 8) (h : ∀ r, r < f → s.testBit r = false) (h1 : s.testBit f = true) : nF s = f := nF_0 ⟨s, hs⟩ ⟨f, hf⟩ (fun r hr => h r.val hr) h1
theorem nF_lo0 : ∀ s : Fin 256, ∀ p : Fin 8, p.val < nF s.val → s.val.testBit p.val = false := by decide +kernel
theorem nF_lo {s p : Nat} (hs : s < 256) (hp : p < 8) (h : p < nF s) : s.testBit p = false := nF_lo0 ⟨s, hs⟩ ⟨p, hp⟩ h
theorem nF_n0 : ∀ s : Fin 256, ∀ n : Fin 9, 0 < s.val → s.val < 2 ^ n.val → nF s.val < n.val := by decide +kernel
theorem nF_n {s n : Nat} (hs : 0 < s) (hn : n ≤ 8) (h : s < 2 ^ n) : nF s < n := by
  have h2 : (2 : Nat) ^ n ≤ 2 ^ 8 := Nat.pow_le_pow_right (by omega) hn
  exact nF_n0 ⟨s, by omega⟩ ⟨n, by omega⟩ hs h
theorem nD_lo0 : ∀ s : Fin 256, ∀ p : Fin 8, p.val ≤ nF s.val → (nDel s.val (nF s.val)).testBit p.val = false := by decide +kernel
theorem nD_lo {s p : Nat} (hs : s < 256) (hp : p < 8) (h : p ≤ nF s) : (nDel s (nF s)).testBit p = false := nD_lo0 ⟨s, hs⟩ ⟨p, hp⟩ h
theorem xD0 : ∀ s : Fin 256, ∀ r : Fin 8, s.val.testBit r.val = true → xxor ((s.val : Nat) : Int) (xshl 1 ((r.val : Nat) : Int)) = ((nDel s.val r.val : Nat) : Int) := by decide +kernel
theorem xD {s r : Nat} (hs : s < 256) (hr : r < 8) (h : s.testBit r = true) : xxor (s : Int) (xshl 1 (r : Int)) = ((nDel s r : Nat) : Int) := xD0 ⟨s, hs⟩ ⟨r, hr⟩ h
theorem nZ0 : ∀ s : Fin 256, ∀ n : Fin 9, s.val < 2 ^ n.val → (∀ r : Fin 8, r.val < n.val → s.val.testBit r.val = false) → s.val = 0 := by decide +kernel
theorem nZ {s n : Nat} (hn : n ≤ 8) (hs : s < 2 ^ n) (h : ∀ r, r < n → s.testBit r = false) : s = 0 := by
  have h2 : (2 : Nat) ^ n ≤ 2 ^ 8 := Nat.pow_le_pow_right (by omega) hn
  exact nZ0 ⟨s, by omega⟩ ⟨n, by omega⟩ hs (fun r hr => h r.val hr)
/-- the keys that two runs share, of the first i0 runs and of the i0-th the first j0 -/
def pSh (w : Int → Int) (I : Nat → Int → Int) (c i0 j0 n : Nat) : Prop := ∀ i j : Nat, j < n → (i < i0 ∨ (i = i0 ∧ j < j0)) → I (c + 28 + 1 + i) (j : Int) = sAlk w i j
theorem pSh.S {i j n : Nat} (h : pSh w I c i j n) {v : Int} (hv : v = sAlk w i j) : pSh w (upI I (c + 28 + 1 + i) (j : Int) v) c i (j + 1) n := by
  intro g k h1 h2
  by_cases e : g = i
  · subst e
    by_cases e2 : k = j
    · subst e2; rw [upI_at]; exact hv
    · rw [upI_nk _ _ _ _ (by omega)]; exact h g k h1 (by omega)
  · rw [upI_na _ _ _ _ (by omega)]; exact h g k h1 (by omega)
theorem pSh.ne {i j n x : Nat} (h : pSh w I c i j n) (hi : i ≤ 8) (hx : x = c + 37 ∨ x < c) (k v : Int) (hj : i = 8 → j = 0) : pSh w (upI I x k v) c i j n := fun g l h1 h2 => by rw [upI_na _ _ _ _ (by omega)]; exact h g l h1 h2
theorem sPx_lo {w : Int → Int} {t : Nat → Int} {s : Nat} (h : 0 < s ∧ s < 256) (ht : ∀ x, x < s → 0 ≤ t x) : ∀ j : Nat, j ≤ nF s + 1 → sPx w t s (j + 1) = t (nDel s (nF s))
  | 0, _ => by
    have h1 := ht _ (nF_e h).2.2.2
    rw [sPx, sPx]
    unfold sPb
    rw [if_pos (by omega)]; omega
  | j + 1, hj => by
    have h0 := (nF_e h).2.1
    have h1 := ht _ (nF_e h).2.2.2
    rw [sPx, sPx_lo h ht j (by omega)]
    unfold sPb
    rw [if_neg (by omega), show (((j + 1 : Nat) : Int) - 1).toNat = j by omega, nD_lo h.2 (by omega) (by omega), if_neg (by decide)]; omega
theorem sPb_lo {w : Int → Int} {t : Nat → Int} {s j : Nat} (h : 0 < s ∧ s < 256) (hj : 1 ≤ j ∧ j ≤ nF s + 1) : sPb w t s ((j : Int) - 1) = -1 := by
  have h0 := (nF_e h).2.1
  unfold sPb
  rw [if_neg (by omega), show ((j : Int) - 1).toNat = j - 1 by omega, nD_lo h.2 (by omega) (by omega), if_neg (by decide)]
theorem sPb_f {w : Int → Int} {t : Nat → Int} {s o : Nat} (h : (nDel s (nF s)).testBit o = false) : sPb w t s (o : Int) = -1 := by
  unfold sPb
  rw [if_neg (by omega), Int.toNat_natCast, h, if_neg (by decide)]
theorem sPb_t {w : Int → Int} {t : Nat → Int} {s o : Nat} (h : (nDel s (nF s)).testBit o = true) : sPb w t s (o : Int) = sAlk w (nF s) o + t (nDel (nDel s (nF s)) o) := by
  unfold sPb
  rw [if_neg (by omega), Int.toNat_natCast, h, if_pos rfl]
theorem sPx_s (w : Int → Int) (t : Nat → Int) (s o : Nat) : sPx w t s (o + 1 + 1) = max (sPx w t s (o + 1)) (sPb w t s (o : Int)) := by
  rw [sPx, show ((o + 1 : Nat) : Int) - 1 = (o : Int) by omega]
theorem sFst_ex {g : Nat → Int} {v : Int} : ∀ {n j : Nat}, j < n → g j = v → sFst g v n < n
  | n + 1, j, h, e => by
    rw [sFst]
    by_cases h1 : sFst g v n < n
    · rw [if_pos h1]; omega
    · rw [if_neg h1]
      by_cases h2 : g n = v
      · rw [if_pos h2]; omega
      · have : j < n := by
          by_cases e2 : j = n
          · subst e2; exact absurd e h2
          · omega
        exact absurd (sFst_ex this e) h1
theorem nP_8 (w : Int → Int) : nP w ≤ 8 ∧ 2 ^ nP w ≤ 256 ∧ 0 < 2 ^ nP w := by
  have h : nP w ≤ 8 := by unfold nP; omega
  exact ⟨h, Nat.le_trans (Nat.pow_le_pow_right (by omega) h) (by decide), Nat.pow_pos (by omega)⟩
theorem sPp_lt {w : Int → Int} {s : Nat} (h : 0 < s ∧ s < 2 ^ nP w) : sPp w s < nP w + 1 := by
  obtain ⟨j, h1, h2⟩ := sPp_ex h (nP_8 w).2.1
  exact sFst_ex h1 h2
theorem sAlk_e {i j : Int → Int} {w : Int → Int} {a b : Nat} (hi : ∀ k : Int, 0 ≤ k → k < 60 → i k = w (201 + 122 * (a : Int) + k)) (hj : ∀ k : Int, 0 ≤ k → k < 60 → j k = w (201 + 122 * (b : Int) + k)) : sAlso i j 60 = sAlk w a b := by
  unfold sAlso sAlk
  exact pSum_congr (fun k hk => by rw [hi k (by omega) (by omega), hj k (by omega) (by omega)])
theorem pPr_I {u : Int → Int} {n S x : Nat} {k v : Int} (h : pPr w (I x) n S) (e : upI I x k v x = u) : u = wS (I x) k v := by
  subst e; funext j
  unfold upI wS
  by_cases q : j = k
  · rw [if_pos ⟨rfl, q⟩, if_pos q]
  · rw [if_neg (fun z => q z.2), if_neg q]
theorem upI_wS (I : Nat → Int → Int) (x : Nat) (k v : Int) : upI I x k v x = wS (I x) k v := by
  funext j
  unfold upI wS
  by_cases q : j = k
  · rw [if_pos ⟨rfl, q⟩, if_pos q]
  · rw [if_neg (fun z => q z.2), if_neg q]
end PRS
set_option maxHeartbeats 4000000 in
set_option maxRecDepth 100000 in
theorem ct_X0_mostOf {E : xE} {z : Nat} {T : Nat → Nat × Int} {F : Nat → Nat → Int} {I : Nat → Int → Int} {P : Nat → Nat → Option Nat} {Y : Nat → Int → Option Nat} {c : Nat} {w : Int → Int} (hC : wCho T P Y c) {n s : Nat} (hn : n ≤ 8) (hs : 0 < s ∧ s < 2 ^ n) (hsh : pSh w I c n 0 n) (hp : pPr w (I (c + 37)) n s) : Ct E 1 mX0_mostOf 0 0 [.ref c, J (s : Int), J (n : Int)] (z, T, F, I, P, Y) (xd (some (J (sPx w (fun x => I (c + 37) (x : Int)) s (n + 1)))) (z, T, F, I, P, Y)) := by
  obtain ⟨k0, ⟨b1, ⟨b2, b3⟩, b4⟩, ⟨g1, ⟨g2, g3⟩, g4⟩, ⟨u1, u2, u3⟩, ⟨h1, ⟨h2, h3⟩, h4⟩, ⟨m1, m2, m3⟩, n1, n2, n3⟩ := id hC
  have hn2 : (2 : Nat) ^ n ≤ 2 ^ 8 := Nat.pow_le_pow_right (by omega) hn
  have hs8 : 0 < s ∧ s < 256 := by omega
  obtain ⟨f1, f2, f3, f4⟩ := nF_e hs8
  have f5 := nF_n hs.1 hn hs.2
  have f6 := nDel_le s (nF s)
  have ht : ∀ x : Nat, x < s → 0 ≤ I (c + 37) (x : Int) ∧ I (c + 37) (x : Int) ≤ 60 * x := pPr_bd hp (by omega)
  have hx0 := ht _ f4
  refine Ct.of [some (.ref c), some (J (s : Int)), some (J (n : Int)), none, none, none, none] kt_X0_mostOf rfl (Nat.le_of_ble_eq_true rfl) rfl (fun d hd => ?_)
  generalize hX : xN E _ _ _ = X
  refine xg_iconst 1 dX0_mostOf_0 rfl ?_
  refine xg_istoren 2 _ dX0_mostOf_1 rfl rfl rfl (by decide) (Or.inr rfl) ?_
  have loop2 : ∀ (mm : Nat) (f : Nat), f ≤ nF s → 20 - (f : Int) < (mm : Int) → xG E mX0_mostOf (xR d 0 0) X 2 [some (.ref c), some (J (s : Int)), some (J (n : Int)), some (J (f : Int)), none, none, none] [] (z, T, F, I, P, Y) 0 0 := by
    intro mm
    induction mm with
    | zero => intro f hf hm; exfalso; omega
    | succ mm ih =>
      intro f hf hm
      have hfe : s.testBit f = true → f = nF s := fun q => by
        by_cases e : f = nF s
        · exact e
        · rw [nF_lo hs8.2 (by omega) (by omega)] at q; cases q
      refine xg_iloadn 3 dX0_mostOf_2 rfl rfl rfl ?_
      refine xg_iloadn 4 dX0_mostOf_3 rfl rfl rfl ?_
      refine xg_icge 21 7 dX0_mostOf_4 rfl rfl (by omega) (fun hb4 => ?_) (fun hb4 => ?_)
      · exfalso; omega
      · skip
        refine xg_iloadn 8 dX0_mostOf_7 rfl rfl rfl ?_
        refine xg_iloadn 9 dX0_mostOf_8 rfl rfl rfl ?_
        refine xg_ishr 10 dX0_mostOf_9 rfl ?_
        refine xg_iconst 11 dX0_mostOf_10 rfl ?_
        refine xg_iand 12 dX0_mostOf_11 rfl ?_
        rw [xbit (by omega) (by omega)]
        refine xg_bne 21 15 dX0_mostOf_12 rfl rfl (fun hb12 => ?_) (fun hb12 => ?_)
        · skip
          have hfn := hfe hb12
          subst hfn
          refine xg_iloadn 22 dX0_mostOf_21 rfl rfl rfl ?_
          refine xg_iconst 23 dX0_mostOf_22 rfl ?_
          refine xg_iloadn 24 dX0_mostOf_23 rfl rfl rfl ?_
          refine xg_ishl 25 dX0_mostOf_24 rfl ?_
          refine xg_iconst 26 dX0_mostOf_25 rfl ?_
          refine xg_ixor 27 dX0_mostOf_26 rfl ?_
          refine xg_iand 28 dX0_mostOf_27 rfl ?_
          rw [nDel_e (by omega) (by omega)]
          refine xg_istore 30 _ dX0_mostOf_28 rfl rfl (by decide) (Or.inr rfl) ?_
          refine xg_aloadn 31 dX0_mostOf_30 rfl rfl rfl ?_
          refine xg_getP 34 kf_RX0_26 dX0_mostOf_31 rfl (by assumption) (by assumption) ?_
          refine xg_iload 36 dX0_mostOf_34 rfl rfl ?_
          refine xg_iald 37 dX0_mostOf_36 rfl (by assumption) (by rw [m3]; omega) ?_
          refine xg_istore 39 _ dX0_mostOf_37 rfl rfl (by decide) (Or.inr rfl) ?_
          refine xg_iloadn 40 dX0_mostOf_39 rfl rfl rfl ?_
          refine xg_iconst 41 dX0_mostOf_40 rfl ?_
          refine xg_iadd 42 dX0_mostOf_41 rfl ?_
          refine xg_istore 44 _ dX0_mostOf_42 rfl rfl (by decide) (Or.inr rfl) ?_
          have loop44 : ∀ (mm : Nat) (o : Nat), nF s + 1 ≤ o ∧ o ≤ n → 20 - (o : Int) < (mm : Int) → xG E mX0_mostOf (xR d 0 0) X 44 [some (.ref c), some (J (s : Int)), some (J (n : Int)), some (J ((nF s : Nat) : Int)), some (J ((nDel s (nF s) : Nat) : Int)), some (J (sPx w (fun x => I (c + 37) (x : Int)) s (o + 1))), some (J (o : Int))] [] (z, T, F, I, P, Y) 0 0 := by
            intro mm
            induction mm with
            | zero => intro o ho hm; exfalso; omega
            | succ mm ih2 =>
              intro o ho hm
              have e5 := sPx_bd (w := w) hs8 ht (o + 1)
              refine xg_iload 46 dX0_mostOf_44 rfl rfl ?_
              refine xg_iloadn 47 dX0_mostOf_46 rfl rfl rfl ?_
              refine xg_icge 95 50 dX0_mostOf_47 rfl rfl (by omega) (fun hb47 => ?_) (fun hb47 => ?_)
              · skip
                refine xg_iload 97 dX0_mostOf_95 rfl rfl ?_
                subst hX
                exact xg_ireturn dX0_mostOf_97 rfl ⟨Nat.le_refl _, Nat.le_refl _⟩ ⟨by rw [show o = n by omega], rfl⟩
              · skip
                refine xg_iload 52 dX0_mostOf_50 rfl rfl ?_
                refine xg_iload 54 dX0_mostOf_52 rfl rfl ?_
                refine xg_ishr 55 dX0_mostOf_54 rfl ?_
                refine xg_iconst 56 dX0_mostOf_55 rfl ?_
                refine xg_iand 57 dX0_mostOf_56 rfl ?_
                rw [xbit (by omega) (by omega)]
                refine xg_beq 89 60 dX0_mostOf_57 rfl rfl (fun hb57 => ?_) (fun hb57 => ?_)
                · skip
                  refine xg_iinc 92 _ dX0_mostOf_89 rfl rfl rfl rfl (by decide) (Or.inr rfl) ?_
                  refine xg_goto 44 dX0_mostOf_92 rfl ?_
                  exact xg_weak _ (xle_s rfl (xle_s rfl (xle_s rfl (xle_s rfl (xle_s rfl (xle_s (by rw [sPx_s, sPb_f hb57, show max (sPx w (fun x : Nat => I (c + 37) (x : Int)) s (o + 1)) (-1) = sPx w (fun x : Nat => I (c + 37) (x : Int)) s (o + 1) by omega]) (xle_s rfl xle_0))))))) (ih2 (o + 1) (by omega) (by omega))
                · skip
                  refine xg_iload 62 dX0_mostOf_60 rfl rfl ?_
                  skip
                  refine xg_aloadn 63 dX0_mostOf_62 rfl rfl rfl ?_
                  refine xg_getP 66 kf_RX0_23 dX0_mostOf_63 rfl (by assumption) (by assumption) ?_
                  refine xg_iloadn 67 dX0_mostOf_66 rfl rfl rfl ?_
                  refine xg_aald 68 dX0_mostOf_67 rfl (by assumption) (by omega) (h4 (nF s) (by omega)).1 ?_
                  refine xg_iload 70 dX0_mostOf_68 rfl rfl ?_
                  refine xg_iald 71 dX0_mostOf_70 rfl (h4 (nF s) (by omega)).2.1 (by rw [(h4 (nF s) (by omega)).2.2]; omega) ?_
                  rw [show I (c + 28 + 1 + nF s) (o : Int) = sAlk w (nF s) o from hsh _ _ (by omega) (by omega)]
                  have e1 := sAlk_bd w (nF s) o
                  have e2 := nDel_le (nDel s (nF s)) o
                  have e3 := ht (nDel (nDel s (nF s)) o) (by omega)
                  refine xg_aloadn 72 dX0_mostOf_71 rfl rfl rfl ?_
                  refine xg_getP 75 kf_RX0_26 dX0_mostOf_72 rfl (by assumption) (by assumption) ?_
                  refine xg_iload 77 dX0_mostOf_75 rfl rfl ?_
                  refine xg_iconst 78 dX0_mostOf_77 rfl ?_
                  refine xg_iload 80 dX0_mostOf_78 rfl rfl ?_
                  refine xg_ishl 81 dX0_mostOf_80 rfl ?_
                  refine xg_ixor 82 dX0_mostOf_81 rfl ?_
                  rw [xD (by omega) (by omega) hb57]
                  refine xg_iald 83 dX0_mostOf_82 rfl (by assumption) (by rw [m3]; omega) ?_
                  refine xg_iadd 84 dX0_mostOf_83 rfl ?_
                  rw [show I (c + 37) ((nDel (nDel s (nF s)) o : Nat) : Int) = (fun x : Nat => I (c + 37) (x : Int)) (nDel (nDel s (nF s)) o) from rfl, ← sPb_t (t := fun x : Nat => I (c + 37) (x : Int)) hb57]
                  have e4 := sPb_bd (w := w) hs8 ht (o : Int)
                  refine xg_mmax 87 kl_RX0_58 dX0_mostOf_84 rfl (by omega) (Nat.le_of_ble_eq_true rfl) (by omega) ⟨Nat.le_refl _, Nat.le_refl _⟩ ?_
                  refine xg_istore 89 _ dX0_mostOf_87 rfl rfl (by decide) (Or.inr rfl) ?_
                  refine xg_iinc 92 _ dX0_mostOf_89 rfl rfl rfl rfl (by decide) (Or.inr rfl) ?_
                  refine xg_goto 44 dX0_mostOf_92 rfl ?_
                  exact xg_weak _ (xle_s rfl (xle_s rfl (xle_s rfl (xle_s rfl (xle_s rfl (xle_s (by rw [sPx_s]) (xle_s rfl xle_0))))))) (ih2 (o + 1) (by omega) (by omega))
          exact xg_weak _ (xle_s rfl (xle_s rfl (xle_s rfl (xle_s rfl (xle_s rfl (xle_s (by rw [sPx_lo hs8 (fun x hx => (ht x hx).1) (nF s + 1) (by omega)]) (xle_s (by rw [show ((nF s + 1 : Nat) : Int) = ((nF s : Nat) : Int) + 1 by omega]) xle_0))))))) (loop44 30 (nF s + 1) (by omega) (by omega))
        · skip
          refine xg_iinc 18 _ dX0_mostOf_15 rfl rfl rfl rfl (by decide) (Or.inr rfl) ?_
          refine xg_goto 2 dX0_mostOf_18 rfl ?_
          have hf9 : f + 1 ≤ nF s := by
            by_cases e : f = nF s
            · subst e; rw [f3] at hb12; cases hb12
            · omega
          exact xg_weak _ (xle_s rfl (xle_s rfl (xle_s rfl (xle_s rfl (xle_n (xle_n (xle_n xle_0))))))) (ih (f + 1) hf9 (by omega))
  exact xg_weak _ (xle_s rfl (xle_s rfl (xle_s rfl (xle_s rfl (xle_n (xle_n (xle_n xle_0))))))) (loop2 30 0 (by omega) (by omega))

set_option maxHeartbeats 4000000 in
set_option maxRecDepth 100000 in
theorem ct_X0_firstPartner {E : xE} {z : Nat} {T : Nat → Nat × Int} {F : Nat → Nat → Int} {I : Nat → Int → Int} {P : Nat → Nat → Option Nat} {Y : Nat → Int → Option Nat} {c : Nat} {w : Int → Int} (hC : wCho T P Y c) {s : Nat} (hs : 0 < s ∧ s < 2 ^ nP w) (hsh : pSh w I c (nP w) 0 (nP w)) (hp : pPr w (I (c + 37)) (nP w) (2 ^ nP w)) : Ct E 0 mX0_firstPartner 0 0 [.ref c, J (s : Int), J ((nF s : Nat) : Int), J ((nP w : Nat) : Int)] (z, T, F, I, P, Y) (xd (some (J ((sPp w s : Int) - 1))) (z, T, F, I, P, Y)) := by
  obtain ⟨k0, ⟨b1, ⟨b2, b3⟩, b4⟩, ⟨g1, ⟨g2, g3⟩, g4⟩, ⟨u1, u2, u3⟩, ⟨h1, ⟨h2, h3⟩, h4⟩, ⟨m1, m2, m3⟩, n1, n2, n3⟩ := id hC
  obtain ⟨hn, hn2, -⟩ := nP_8 w
  have hs8 : 0 < s ∧ s < 256 := by omega
  obtain ⟨f1, f2, f3, f4⟩ := nF_e hs8
  have f5 := nF_n hs.1 hn hs.2
  have f6 := nDel_le s (nF s)
  have ht : ∀ x : Nat, x < 2 ^ nP w → I (c + 37) (x : Int) = sPrs w x := fun x hx => hp x hx
  have hb : ∀ x : Nat, 0 ≤ sPrs w x ∧ sPrs w x ≤ 60 * x := fun x => sTb_bd _ hn2 x
  have hb1 := hb s
  have hb2 := hb (nDel s (nF s))
  refine Ct.of [some (.ref c), some (J (s : Int)), some (J ((nF s : Nat) : Int)), some (J ((nP w : Nat) : Int)), none, none, none] kt_X0_firstPartner rfl (Nat.le_of_ble_eq_true rfl) rfl (fun d hd => ?_)
  generalize hX : xN E _ _ _ = X
  refine xg_iloadn 1 dX0_firstPartner_0 rfl rfl rfl ?_
  refine xg_iconst 2 dX0_firstPartner_1 rfl ?_
  refine xg_iloadn 3 dX0_firstPartner_2 rfl rfl rfl ?_
  refine xg_ishl 4 dX0_firstPartner_3 rfl ?_
  refine xg_iconst 5 dX0_firstPartner_4 rfl ?_
  refine xg_ixor 6 dX0_firstPartner_5 rfl ?_
  refine xg_iand 7 dX0_firstPartner_6 rfl ?_
  rw [nDel_e (by omega) (by omega)]
  refine xg_istore 9 _ dX0_firstPartner_7 rfl rfl (by decide) (Or.inr rfl) ?_
  refine xg_aloadn 10 dX0_firstPartner_9 rfl rfl rfl ?_
  refine xg_getP 13 kf_RX0_26 dX0_firstPartner_10 rfl (by assumption) (by assumption) ?_
  refine xg_iload 15 dX0_firstPartner_13 rfl rfl ?_
  refine xg_iald 16 dX0_firstPartner_15 rfl (by assumption) (by rw [m3]; omega) ?_
  rw [ht _ (by omega)]
  refine xg_aloadn 17 dX0_firstPartner_16 rfl rfl rfl ?_
  refine xg_getP 20 kf_RX0_26 dX0_firstPartner_17 rfl (by assumption) (by assumption) ?_
  refine xg_iloadn 21 dX0_firstPartner_20 rfl rfl rfl ?_
  refine xg_iald 22 dX0_firstPartner_21 rfl (by assumption) (by rw [m3]; omega) ?_
  rw [ht _ (by omega)]
  refine xg_icne 27 25 dX0_firstPartner_22 rfl rfl (by omega) (fun hb22 => ?_) (fun hb22 => ?_)
  · skip
    refine xg_iloadn 28 dX0_firstPartner_27 rfl rfl rfl ?_
    refine xg_iconst 29 dX0_firstPartner_28 rfl ?_
    refine xg_iadd 30 dX0_firstPartner_29 rfl ?_
    refine xg_istore 32 _ dX0_firstPartner_30 rfl rfl (by decide) (Or.inr rfl) ?_
    have loop32 : ∀ (mm : Nat) (o : Nat), (nF s + 1 ≤ o ∧ o ≤ nP w) → (∀ j : Nat, j < o + 1 → sPb w (sPrs w) s ((j : Int) - 1) ≠ sPrs w s) → 20 - (o : Int) < (mm : Int) → xG E mX0_firstPartner (xR d 0 0) X 32 [some (.ref c), some (J (s : Int)), some (J ((nF s : Nat) : Int)), some (J ((nP w : Nat) : Int)), some (J ((nDel s (nF s) : Nat) : Int)), some (J (o : Int)), none] [] (z, T, F, I, P, Y) 0 0 := by
      intro mm
      induction mm with
      | zero => intro o ho hq hm; exfalso; omega
      | succ mm ih =>
        intro o ho hq hm
        refine xg_iload 34 dX0_firstPartner_32 rfl rfl ?_
        refine xg_iloadn 35 dX0_firstPartner_34 rfl rfl rfl ?_
        refine xg_icge 100 38 dX0_firstPartner_35 rfl rfl (by omega) (fun hb35 => ?_) (fun hb35 => ?_)
        · skip
          refine xg_iconst 101 dX0_firstPartner_100 rfl ?_
          subst hX
          refine xg_ireturn dX0_firstPartner_101 rfl ⟨Nat.le_refl _, Nat.le_refl _⟩ ?_
          exfalso
          obtain ⟨j, g8, g9⟩ := sPp_ex hs hn2
          exact hq j (by omega) g9
        · skip
          refine xg_iload 40 dX0_firstPartner_38 rfl rfl ?_
          refine xg_iload 42 dX0_firstPartner_40 rfl rfl ?_
          refine xg_ishr 43 dX0_firstPartner_42 rfl ?_
          refine xg_iconst 44 dX0_firstPartner_43 rfl ?_
          refine xg_iand 45 dX0_firstPartner_44 rfl ?_
          rw [xbit (by omega) (by omega)]
          refine xg_beq 52 48 dX0_firstPartner_45 rfl rfl (fun hb45 => ?_) (fun hb45 => ?_)
          · skip
            refine xg_iconst 53 dX0_firstPartner_52 rfl ?_
            refine xg_istore 55 _ dX0_firstPartner_53 rfl rfl (by decide) (Or.inr rfl) ?_
            refine xg_iload 57 dX0_firstPartner_55 rfl rfl ?_
            refine xg_ifeq 94 60 dX0_firstPartner_57 rfl rfl (by omega) (fun hb57 => ?_) (fun hb57 => ?_)
            · skip
              refine xg_iinc 97 _ dX0_firstPartner_94 rfl rfl rfl rfl (by decide) (Or.inr rfl) ?_
              refine xg_goto 32 dX0_firstPartner_97 rfl ?_
              have hq9 : ∀ j : Nat, j < o + 1 + 1 → sPb w (sPrs w) s ((j : Int) - 1) ≠ sPrs w s := fun j hj => by
                by_cases e : j = o + 1
                · subst e; rw [show ((o + 1 : Nat) : Int) - 1 = (o : Int) by omega, sPb_f hb45]; omega
                · exact hq j (by omega)
              exact xg_weak _ (xle_s rfl (xle_s rfl (xle_s rfl (xle_s rfl (xle_s rfl (xle_s rfl (xle_n xle_0))))))) (ih (o + 1) (by omega) hq9 (by omega))
            · exfalso; omega
          · skip
            refine xg_iconst 49 dX0_firstPartner_48 rfl ?_
            refine xg_goto 53 dX0_firstPartner_49 rfl ?_
            refine xg_istore 55 _ dX0_firstPartner_53 rfl rfl (by decide) (Or.inr rfl) ?_
            refine xg_iload 57 dX0_firstPartner_55 rfl rfl ?_
            refine xg_ifeq 94 60 dX0_firstPartner_57 rfl rfl (by omega) (fun hb57 => ?_) (fun hb57 => ?_)
            · exfalso; omega
            · skip
              refine xg_aloadn 61 dX0_firstPartner_60 rfl rfl rfl ?_
              refine xg_getP 64 kf_RX0_23 dX0_firstPartner_61 rfl (by assumption) (by assumption) ?_
              refine xg_iloadn 65 dX0_firstPartner_64 rfl rfl rfl ?_
              refine xg_aald 66 dX0_firstPartner_65 rfl (by assumption) (by omega) (h4 (nF s) (by omega)).1 ?_
              refine xg_iload 68 dX0_firstPartner_66 rfl rfl ?_
              refine xg_iald 69 dX0_firstPartner_68 rfl (h4 (nF s) (by omega)).2.1 (by rw [(h4 (nF s) (by omega)).2.2]; omega) ?_
              rw [show I (c + 28 + 1 + nF s) (o : Int) = sAlk w (nF s) o from hsh _ _ (by omega) (by omega)]
              have e1 := sAlk_bd w (nF s) o
              have e2 := nDel_le (nDel s (nF s)) o
              have e3 := hb (nDel (nDel s (nF s)) o)
              refine xg_aloadn 70 dX0_firstPartner_69 rfl rfl rfl ?_
              refine xg_getP 73 kf_RX0_26 dX0_firstPartner_70 rfl (by assumption) (by assumption) ?_
              refine xg_iload 75 dX0_firstPartner_73 rfl rfl ?_
              refine xg_iconst 76 dX0_firstPartner_75 rfl ?_
              refine xg_iload 78 dX0_firstPartner_76 rfl rfl ?_
              refine xg_ishl 79 dX0_firstPartner_78 rfl ?_
              refine xg_ixor 80 dX0_firstPartner_79 rfl ?_
              rw [xD (by omega) (by omega) hb45]
              refine xg_iald 81 dX0_firstPartner_80 rfl (by assumption) (by rw [m3]; omega) ?_
              rw [ht _ (by omega)]
              refine xg_iadd 82 dX0_firstPartner_81 rfl ?_
              rw [← sPb_t (t := sPrs w) hb45]
              have e4 := sPb_bd (w := w) hs8 (fun x _ => hb x) (o : Int)
              refine xg_aloadn 83 dX0_firstPartner_82 rfl rfl rfl ?_
              refine xg_getP 86 kf_RX0_26 dX0_firstPartner_83 rfl (by assumption) (by assumption) ?_
              refine xg_iloadn 87 dX0_firstPartner_86 rfl rfl rfl ?_
              refine xg_iald 88 dX0_firstPartner_87 rfl (by assumption) (by rw [m3]; omega) ?_
              rw [ht _ (by omega)]
              refine xg_icne 94 91 dX0_firstPartner_88 rfl rfl (by omega) (fun hb88 => ?_) (fun hb88 => ?_)
              · skip
                refine xg_iinc 97 _ dX0_firstPartner_94 rfl rfl rfl rfl (by decide) (Or.inr rfl) ?_
                refine xg_goto 32 dX0_firstPartner_97 rfl ?_
                have hq9 : ∀ j : Nat, j < o + 1 + 1 → sPb w (sPrs w) s ((j : Int) - 1) ≠ sPrs w s := fun j hj => by
                  by_cases e : j = o + 1
                  · subst e; rw [show ((o + 1 : Nat) : Int) - 1 = (o : Int) by omega]; exact hb88
                  · exact hq j (by omega)
                exact xg_weak _ (xle_s rfl (xle_s rfl (xle_s rfl (xle_s rfl (xle_s rfl (xle_s rfl (xle_n xle_0))))))) (ih (o + 1) (by omega) hq9 (by omega))
              · skip
                refine xg_iload 93 dX0_firstPartner_91 rfl rfl ?_
                subst hX
                exact xg_ireturn dX0_firstPartner_93 rfl ⟨Nat.le_refl _, Nat.le_refl _⟩ ⟨by rw [show sPp w s = o + 1 from sFst_at (s := o + 1) (fun j hj => hq j hj) (by rw [show ((o + 1 : Nat) : Int) - 1 = (o : Int) by omega]; exact hb88) (by omega), show ((o + 1 : Nat) : Int) - 1 = (o : Int) by omega], rfl⟩
    have hq0 : ∀ j : Nat, j < nF s + 1 + 1 → sPb w (sPrs w) s ((j : Int) - 1) ≠ sPrs w s := fun j hj => by
      by_cases e : j = 0
      · subst e; rw [show ((0 : Nat) : Int) - 1 = -1 by omega]; exact hb22
      · rw [sPb_lo hs8 (by omega)]; omega
    exact xg_weak _ (xle_s rfl (xle_s rfl (xle_s rfl (xle_s rfl (xle_s rfl (xle_s (by rw [show ((nF s + 1 : Nat) : Int) = ((nF s : Nat) : Int) + 1 by omega]) (xle_n xle_0))))))) (loop32 30 (nF s + 1) (by omega) hq0 (by omega))
  · skip
    refine xg_iconst 26 dX0_firstPartner_25 rfl ?_
    subst hX
    exact xg_ireturn dX0_firstPartner_26 rfl ⟨Nat.le_refl _, Nat.le_refl _⟩ ⟨by rw [show sPp w s = 0 from sFst_at (s := 0) (fun j hj => by omega) (show sPb w (sPrs w) s (((0 : Nat) : Int) - 1) = _ from hb22) (by omega)]; rfl, rfl⟩

