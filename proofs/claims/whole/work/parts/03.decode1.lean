theorem dX0_init_0 : decode cX0_init 0 = .ok (.aload_n 0, 1) := by decide +kernel
theorem dX0_init_1 : decode cX0_init 1 = .ok (.invokespecial 3, 3) := by decide +kernel
theorem dX0_init_4 : decode cX0_init 4 = .ok (.aload_n 0, 1) := by decide +kernel
theorem dX0_init_5 : decode cX0_init 5 = .ok (.new 9, 3) := by decide +kernel
theorem dX0_init_8 : decode cX0_init 8 = .ok (.dup, 1) := by decide +kernel
theorem dX0_init_9 : decode cX0_init 9 = .ok (.dconst 0, 1) := by decide +kernel
theorem dX0_init_10 : decode cX0_init 10 = .ok (.ldc2_w 11, 3) := by decide +kernel
theorem dX0_init_13 : decode cX0_init 13 = .ok (.invokespecial 13, 3) := by decide +kernel
theorem dX0_init_16 : decode cX0_init 16 = .ok (.putfield 16, 3) := by decide +kernel
theorem dX0_init_19 : decode cX0_init 19 = .ok (.aload_n 0, 1) := by decide +kernel
theorem dX0_init_20 : decode cX0_init 20 = .ok (.new 9, 3) := by decide +kernel
theorem dX0_init_23 : decode cX0_init 23 = .ok (.dup, 1) := by decide +kernel
theorem dX0_init_24 : decode cX0_init 24 = .ok (.ldc2_w 22, 3) := by decide +kernel
theorem dX0_init_27 : decode cX0_init 27 = .ok (.dconst 1, 1) := by decide +kernel
theorem dX0_init_28 : decode cX0_init 28 = .ok (.invokespecial 13, 3) := by decide +kernel
theorem dX0_init_31 : decode cX0_init 31 = .ok (.putfield 24, 3) := by decide +kernel
theorem dX0_init_34 : decode cX0_init 34 = .ok (.aload_n 0, 1) := by decide +kernel
theorem dX0_init_35 : decode cX0_init 35 = .ok (.new 9, 3) := by decide +kernel
theorem dX0_init_38 : decode cX0_init 38 = .ok (.dup, 1) := by decide +kernel
theorem dX0_init_39 : decode cX0_init 39 = .ok (.ldc2_w 27, 3) := by decide +kernel
theorem dX0_init_42 : decode cX0_init 42 = .ok (.ldc2_w 29, 3) := by decide +kernel
theorem dX0_init_45 : decode cX0_init 45 = .ok (.invokespecial 13, 3) := by decide +kernel
theorem dX0_init_48 : decode cX0_init 48 = .ok (.putfield 31, 3) := by decide +kernel
theorem dX0_init_51 : decode cX0_init 51 = .ok (.aload_n 0, 1) := by decide +kernel
theorem dX0_init_52 : decode cX0_init 52 = .ok (.new 34, 3) := by decide +kernel
theorem dX0_init_55 : decode cX0_init 55 = .ok (.dup, 1) := by decide +kernel
theorem dX0_init_56 : decode cX0_init 56 = .ok (.invokespecial 36, 3) := by decide +kernel
theorem dX0_init_59 : decode cX0_init 59 = .ok (.putfield 37, 3) := by decide +kernel
theorem dX0_init_62 : decode cX0_init 62 = .ok (.aload_n 0, 1) := by decide +kernel
theorem dX0_init_63 : decode cX0_init 63 = .ok (.ldc2_w 11, 3) := by decide +kernel
theorem dX0_init_66 : decode cX0_init 66 = .ok (.putfield 41, 3) := by decide +kernel
theorem dX0_init_69 : decode cX0_init 69 = .ok (.aload_n 0, 1) := by decide +kernel
theorem dX0_init_70 : decode cX0_init 70 = .ok (.iconst 0, 1) := by decide +kernel
theorem dX0_init_71 : decode cX0_init 71 = .ok (.putfield 45, 3) := by decide +kernel
theorem dX0_init_74 : decode cX0_init 74 = .ok (.aload_n 0, 1) := by decide +kernel
theorem dX0_init_75 : decode cX0_init 75 = .ok (.dload_n 1, 1) := by decide +kernel
theorem dX0_init_76 : decode cX0_init 76 = .ok (.putfield 49, 3) := by decide +kernel
theorem dX0_init_79 : decode cX0_init 79 = .ok (.aload_n 0, 1) := by decide +kernel
theorem dX0_init_80 : decode cX0_init 80 = .ok (.dload_n 3, 1) := by decide +kernel
theorem dX0_init_81 : decode cX0_init 81 = .ok (.putfield 52, 3) := by decide +kernel
theorem dX0_init_84 : decode cX0_init 84 = .ok (.aload_n 0, 1) := by decide +kernel
theorem dX0_init_85 : decode cX0_init 85 = .ok (.dload 5, 2) := by decide +kernel
theorem dX0_init_87 : decode cX0_init 87 = .ok (.putfield 55, 3) := by decide +kernel
theorem dX0_init_90 : decode cX0_init 90 = .ok (.return_, 1) := by decide +kernel
theorem dX0_pass_0 : decode cX0_pass 0 = .ok (.aload_n 0, 1) := by decide +kernel
theorem dX0_pass_1 : decode cX0_pass 1 = .ok (.getfield 31, 3) := by decide +kernel
theorem dX0_pass_4 : decode cX0_pass 4 = .ok (.dload_n 1, 1) := by decide +kernel
theorem dX0_pass_5 : decode cX0_pass 5 = .ok (.invokevirtual 58, 3) := by decide +kernel
theorem dX0_pass_8 : decode cX0_pass 8 = .ok (.ifCond .ne 22, 3) := by decide +kernel
theorem dX0_pass_11 : decode cX0_pass 11 = .ok (.aload_n 0, 1) := by decide +kernel
theorem dX0_pass_12 : decode cX0_pass 12 = .ok (.aload_n 0, 1) := by decide +kernel
theorem dX0_pass_13 : decode cX0_pass 13 = .ok (.getfield 62, 3) := by decide +kernel
theorem dX0_pass_16 : decode cX0_pass 16 = .ok (.putfield 65, 3) := by decide +kernel
theorem dX0_pass_19 : decode cX0_pass 19 = .ok (.aload_n 0, 1) := by decide +kernel
theorem dX0_pass_20 : decode cX0_pass 20 = .ok (.dup, 1) := by decide +kernel
theorem dX0_pass_21 : decode cX0_pass 21 = .ok (.getfield 68, 3) := by decide +kernel
theorem dX0_pass_24 : decode cX0_pass 24 = .ok (.iconst 1, 1) := by decide +kernel
theorem dX0_pass_25 : decode cX0_pass 25 = .ok (.iadd, 1) := by decide +kernel
theorem dX0_pass_26 : decode cX0_pass 26 = .ok (.putfield 68, 3) := by decide +kernel
theorem dX0_pass_29 : decode cX0_pass 29 = .ok (.return_, 1) := by decide +kernel
theorem dX0_pass_30 : decode cX0_pass 30 = .ok (.aload_n 0, 1) := by decide +kernel
theorem dX0_pass_31 : decode cX0_pass 31 = .ok (.getfield 71, 3) := by decide +kernel
theorem dX0_pass_34 : decode cX0_pass 34 = .ok (.ifnonnull 7, 3) := by decide +kernel
theorem dX0_pass_37 : decode cX0_pass 37 = .ok (.dload_n 3, 1) := by decide +kernel
theorem dX0_pass_38 : decode cX0_pass 38 = .ok (.goto 10, 3) := by decide +kernel
theorem dX0_pass_41 : decode cX0_pass 41 = .ok (.aload_n 0, 1) := by decide +kernel
theorem dX0_pass_42 : decode cX0_pass 42 = .ok (.getfield 71, 3) := by decide +kernel
theorem dX0_pass_45 : decode cX0_pass 45 = .ok (.getfield 65, 3) := by decide +kernel
theorem dX0_pass_48 : decode cX0_pass 48 = .ok (.dload_n 1, 1) := by decide +kernel
theorem dX0_pass_49 : decode cX0_pass 49 = .ok (.dsub, 1) := by decide +kernel
theorem dX0_pass_50 : decode cX0_pass 50 = .ok (.dstore 5, 2) := by decide +kernel
theorem dX0_pass_52 : decode cX0_pass 52 = .ok (.aload_n 0, 1) := by decide +kernel
theorem dX0_pass_53 : decode cX0_pass 53 = .ok (.getfield 45, 3) := by decide +kernel
theorem dX0_pass_56 : decode cX0_pass 56 = .ok (.ifCond .ne 14, 3) := by decide +kernel
theorem dX0_pass_59 : decode cX0_pass 59 = .ok (.aload_n 0, 1) := by decide +kernel
theorem dX0_pass_60 : decode cX0_pass 60 = .ok (.aload_n 0, 1) := by decide +kernel
theorem dX0_pass_61 : decode cX0_pass 61 = .ok (.getfield 75, 3) := by decide +kernel
theorem dX0_pass_64 : decode cX0_pass 64 = .ok (.invokevirtual 78, 3) := by decide +kernel
theorem dX0_pass_67 : decode cX0_pass 67 = .ok (.goto 26, 3) := by decide +kernel
theorem dX0_pass_70 : decode cX0_pass 70 = .ok (.aload_n 0, 1) := by decide +kernel
theorem dX0_pass_71 : decode cX0_pass 71 = .ok (.getfield 45, 3) := by decide +kernel
theorem dX0_pass_74 : decode cX0_pass 74 = .ok (.iconst 1, 1) := by decide +kernel
theorem dX0_pass_75 : decode cX0_pass 75 = .ok (.if_icmp .ne 12, 3) := by decide +kernel
theorem dX0_pass_78 : decode cX0_pass 78 = .ok (.aload_n 0, 1) := by decide +kernel
theorem dX0_pass_79 : decode cX0_pass 79 = .ok (.dload 5, 2) := by decide +kernel
theorem dX0_pass_81 : decode cX0_pass 81 = .ok (.invokevirtual 82, 3) := by decide +kernel
theorem dX0_pass_84 : decode cX0_pass 84 = .ok (.goto 9, 3) := by decide +kernel
theorem dX0_pass_87 : decode cX0_pass 87 = .ok (.aload_n 0, 1) := by decide +kernel
theorem dX0_pass_88 : decode cX0_pass 88 = .ok (.dload 5, 2) := by decide +kernel
theorem dX0_pass_90 : decode cX0_pass 90 = .ok (.invokevirtual 85, 3) := by decide +kernel
theorem dX0_pass_93 : decode cX0_pass 93 = .ok (.aload_n 0, 1) := by decide +kernel
theorem dX0_pass_94 : decode cX0_pass 94 = .ok (.dload 5, 2) := by decide +kernel
theorem dX0_pass_96 : decode cX0_pass 96 = .ok (.putfield 88, 3) := by decide +kernel
theorem dX0_pass_99 : decode cX0_pass 99 = .ok (.return_, 1) := by decide +kernel
theorem dX0_followLaw_0 : decode cX0_followLaw 0 = .ok (.aload_n 0, 1) := by decide +kernel
theorem dX0_followLaw_1 : decode cX0_followLaw 1 = .ok (.getfield 91, 3) := by decide +kernel
theorem dX0_followLaw_4 : decode cX0_followLaw 4 = .ok (.aload_n 0, 1) := by decide +kernel
theorem dX0_followLaw_5 : decode cX0_followLaw 5 = .ok (.getfield 52, 3) := by decide +kernel
theorem dX0_followLaw_8 : decode cX0_followLaw 8 = .ok (.dload_n 1, 1) := by decide +kernel
theorem dX0_followLaw_9 : decode cX0_followLaw 9 = .ok (.dmul, 1) := by decide +kernel
theorem dX0_followLaw_10 : decode cX0_followLaw 10 = .ok (.dadd, 1) := by decide +kernel
theorem dX0_followLaw_11 : decode cX0_followLaw 11 = .ok (.dstore_n 3, 1) := by decide +kernel
theorem dX0_followLaw_12 : decode cX0_followLaw 12 = .ok (.aload_n 0, 1) := by decide +kernel
theorem dX0_followLaw_13 : decode cX0_followLaw 13 = .ok (.getfield 49, 3) := by decide +kernel
theorem dX0_followLaw_16 : decode cX0_followLaw 16 = .ok (.dload_n 1, 1) := by decide +kernel
theorem dX0_followLaw_17 : decode cX0_followLaw 17 = .ok (.dmul, 1) := by decide +kernel
theorem dX0_followLaw_18 : decode cX0_followLaw 18 = .ok (.dload_n 3, 1) := by decide +kernel
theorem dX0_followLaw_19 : decode cX0_followLaw 19 = .ok (.dadd, 1) := by decide +kernel
theorem dX0_followLaw_20 : decode cX0_followLaw 20 = .ok (.aload_n 0, 1) := by decide +kernel
theorem dX0_followLaw_21 : decode cX0_followLaw 21 = .ok (.getfield 55, 3) := by decide +kernel
theorem dX0_followLaw_24 : decode cX0_followLaw 24 = .ok (.dload_n 1, 1) := by decide +kernel
theorem dX0_followLaw_25 : decode cX0_followLaw 25 = .ok (.aload_n 0, 1) := by decide +kernel
theorem dX0_followLaw_26 : decode cX0_followLaw 26 = .ok (.getfield 88, 3) := by decide +kernel
theorem dX0_followLaw_29 : decode cX0_followLaw 29 = .ok (.dsub, 1) := by decide +kernel
theorem dX0_followLaw_30 : decode cX0_followLaw 30 = .ok (.dmul, 1) := by decide +kernel
theorem dX0_followLaw_31 : decode cX0_followLaw 31 = .ok (.dadd, 1) := by decide +kernel
theorem dX0_followLaw_32 : decode cX0_followLaw 32 = .ok (.dstore 5, 2) := by decide +kernel
theorem dX0_followLaw_34 : decode cX0_followLaw 34 = .ok (.dload 5, 2) := by decide +kernel
theorem dX0_followLaw_36 : decode cX0_followLaw 36 = .ok (.aload_n 0, 1) := by decide +kernel
theorem dX0_followLaw_37 : decode cX0_followLaw 37 = .ok (.getfield 16, 3) := by decide +kernel
theorem dX0_followLaw_40 : decode cX0_followLaw 40 = .ok (.getfield 94, 3) := by decide +kernel
theorem dX0_followLaw_43 : decode cX0_followLaw 43 = .ok (.dcmp .l, 1) := by decide +kernel
theorem dX0_followLaw_44 : decode cX0_followLaw 44 = .ok (.ifCond .le 13, 3) := by decide +kernel
theorem dX0_followLaw_47 : decode cX0_followLaw 47 = .ok (.dload_n 1, 1) := by decide +kernel
theorem dX0_followLaw_48 : decode cX0_followLaw 48 = .ok (.dconst 0, 1) := by decide +kernel
theorem dX0_followLaw_49 : decode cX0_followLaw 49 = .ok (.dcmp .l, 1) := by decide +kernel
theorem dX0_followLaw_50 : decode cX0_followLaw 50 = .ok (.ifCond .le 7, 3) := by decide +kernel
theorem dX0_followLaw_53 : decode cX0_followLaw 53 = .ok (.iconst 1, 1) := by decide +kernel
theorem dX0_followLaw_54 : decode cX0_followLaw 54 = .ok (.goto 4, 3) := by decide +kernel
theorem dX0_followLaw_57 : decode cX0_followLaw 57 = .ok (.iconst 0, 1) := by decide +kernel
theorem dX0_followLaw_58 : decode cX0_followLaw 58 = .ok (.istore 7, 2) := by decide +kernel
theorem dX0_followLaw_60 : decode cX0_followLaw 60 = .ok (.dload 5, 2) := by decide +kernel
theorem dX0_followLaw_62 : decode cX0_followLaw 62 = .ok (.aload_n 0, 1) := by decide +kernel
theorem dX0_followLaw_63 : decode cX0_followLaw 63 = .ok (.getfield 16, 3) := by decide +kernel
theorem dX0_followLaw_66 : decode cX0_followLaw 66 = .ok (.getfield 97, 3) := by decide +kernel
theorem dX0_followLaw_69 : decode cX0_followLaw 69 = .ok (.dcmp .g, 1) := by decide +kernel
theorem dX0_followLaw_70 : decode cX0_followLaw 70 = .ok (.ifCond .ge 13, 3) := by decide +kernel
theorem dX0_followLaw_73 : decode cX0_followLaw 73 = .ok (.dload_n 1, 1) := by decide +kernel
theorem dX0_followLaw_74 : decode cX0_followLaw 74 = .ok (.dconst 0, 1) := by decide +kernel
theorem dX0_followLaw_75 : decode cX0_followLaw 75 = .ok (.dcmp .g, 1) := by decide +kernel
theorem dX0_followLaw_76 : decode cX0_followLaw 76 = .ok (.ifCond .ge 7, 3) := by decide +kernel
theorem dX0_followLaw_79 : decode cX0_followLaw 79 = .ok (.iconst 1, 1) := by decide +kernel
theorem dX0_followLaw_80 : decode cX0_followLaw 80 = .ok (.goto 4, 3) := by decide +kernel
theorem dX0_followLaw_83 : decode cX0_followLaw 83 = .ok (.iconst 0, 1) := by decide +kernel
theorem dX0_followLaw_84 : decode cX0_followLaw 84 = .ok (.istore 8, 2) := by decide +kernel
theorem dX0_followLaw_86 : decode cX0_followLaw 86 = .ok (.iload 7, 2) := by decide +kernel
theorem dX0_followLaw_88 : decode cX0_followLaw 88 = .ok (.ifCond .ne 13, 3) := by decide +kernel
theorem dX0_followLaw_91 : decode cX0_followLaw 91 = .ok (.iload 8, 2) := by decide +kernel
theorem dX0_followLaw_93 : decode cX0_followLaw 93 = .ok (.ifCond .ne 8, 3) := by decide +kernel
theorem dX0_followLaw_96 : decode cX0_followLaw 96 = .ok (.aload_n 0, 1) := by decide +kernel
theorem dX0_followLaw_97 : decode cX0_followLaw 97 = .ok (.dload_n 3, 1) := by decide +kernel
theorem dX0_followLaw_98 : decode cX0_followLaw 98 = .ok (.putfield 91, 3) := by decide +kernel
theorem dX0_followLaw_101 : decode cX0_followLaw 101 = .ok (.aload_n 0, 1) := by decide +kernel
theorem dX0_followLaw_102 : decode cX0_followLaw 102 = .ok (.aload_n 0, 1) := by decide +kernel
theorem dX0_followLaw_103 : decode cX0_followLaw 103 = .ok (.getfield 16, 3) := by decide +kernel
theorem dX0_followLaw_106 : decode cX0_followLaw 106 = .ok (.dload 5, 2) := by decide +kernel
theorem dX0_followLaw_108 : decode cX0_followLaw 108 = .ok (.invokevirtual 100, 3) := by decide +kernel
theorem dX0_followLaw_111 : decode cX0_followLaw 111 = .ok (.invokevirtual 78, 3) := by decide +kernel
theorem dX0_followLaw_114 : decode cX0_followLaw 114 = .ok (.return_, 1) := by decide +kernel
theorem dX0_switchOnOrOff_0 : decode cX0_switchOnOrOff 0 = .ok (.dload_n 1, 1) := by decide +kernel
theorem dX0_switchOnOrOff_1 : decode cX0_switchOnOrOff 1 = .ok (.aload_n 0, 1) := by decide +kernel
theorem dX0_switchOnOrOff_2 : decode cX0_switchOnOrOff 2 = .ok (.getfield 24, 3) := by decide +kernel
theorem dX0_switchOnOrOff_5 : decode cX0_switchOnOrOff 5 = .ok (.getfield 94, 3) := by decide +kernel
theorem dX0_switchOnOrOff_8 : decode cX0_switchOnOrOff 8 = .ok (.dcmp .l, 1) := by decide +kernel
theorem dX0_switchOnOrOff_9 : decode cX0_switchOnOrOff 9 = .ok (.ifCond .le 17, 3) := by decide +kernel
theorem dX0_switchOnOrOff_12 : decode cX0_switchOnOrOff 12 = .ok (.aload_n 0, 1) := by decide +kernel
theorem dX0_switchOnOrOff_13 : decode cX0_switchOnOrOff 13 = .ok (.aload_n 0, 1) := by decide +kernel
theorem dX0_switchOnOrOff_14 : decode cX0_switchOnOrOff 14 = .ok (.getfield 16, 3) := by decide +kernel
theorem dX0_switchOnOrOff_17 : decode cX0_switchOnOrOff 17 = .ok (.getfield 94, 3) := by decide +kernel
theorem dX0_switchOnOrOff_20 : decode cX0_switchOnOrOff 20 = .ok (.invokevirtual 78, 3) := by decide +kernel
theorem dX0_switchOnOrOff_23 : decode cX0_switchOnOrOff 23 = .ok (.goto 26, 3) := by decide +kernel
theorem dX0_switchOnOrOff_26 : decode cX0_switchOnOrOff 26 = .ok (.dload_n 1, 1) := by decide +kernel
theorem dX0_switchOnOrOff_27 : decode cX0_switchOnOrOff 27 = .ok (.aload_n 0, 1) := by decide +kernel
theorem dX0_switchOnOrOff_28 : decode cX0_switchOnOrOff 28 = .ok (.getfield 24, 3) := by decide +kernel
theorem dX0_switchOnOrOff_31 : decode cX0_switchOnOrOff 31 = .ok (.getfield 97, 3) := by decide +kernel
theorem dX0_switchOnOrOff_34 : decode cX0_switchOnOrOff 34 = .ok (.dcmp .g, 1) := by decide +kernel
theorem dX0_switchOnOrOff_35 : decode cX0_switchOnOrOff 35 = .ok (.ifCond .ge 14, 3) := by decide +kernel
theorem dX0_switchOnOrOff_38 : decode cX0_switchOnOrOff 38 = .ok (.aload_n 0, 1) := by decide +kernel
theorem dX0_switchOnOrOff_39 : decode cX0_switchOnOrOff 39 = .ok (.aload_n 0, 1) := by decide +kernel
theorem dX0_switchOnOrOff_40 : decode cX0_switchOnOrOff 40 = .ok (.getfield 16, 3) := by decide +kernel
theorem dX0_switchOnOrOff_43 : decode cX0_switchOnOrOff 43 = .ok (.getfield 97, 3) := by decide +kernel
theorem dX0_switchOnOrOff_46 : decode cX0_switchOnOrOff 46 = .ok (.invokevirtual 78, 3) := by decide +kernel
theorem dX0_switchOnOrOff_49 : decode cX0_switchOnOrOff 49 = .ok (.return_, 1) := by decide +kernel
theorem dX0_moveTo_0 : decode cX0_moveTo 0 = .ok (.dload_n 1, 1) := by decide +kernel
theorem dX0_moveTo_1 : decode cX0_moveTo 1 = .ok (.aload_n 0, 1) := by decide +kernel
theorem dX0_moveTo_2 : decode cX0_moveTo 2 = .ok (.getfield 65, 3) := by decide +kernel
theorem dX0_moveTo_5 : decode cX0_moveTo 5 = .ok (.aload_n 0, 1) := by decide +kernel
theorem dX0_moveTo_6 : decode cX0_moveTo 6 = .ok (.getfield 41, 3) := by decide +kernel
theorem dX0_moveTo_9 : decode cX0_moveTo 9 = .ok (.dadd, 1) := by decide +kernel
theorem dX0_moveTo_10 : decode cX0_moveTo 10 = .ok (.dcmp .l, 1) := by decide +kernel
theorem dX0_moveTo_11 : decode cX0_moveTo 11 = .ok (.ifCond .le 19, 3) := by decide +kernel
theorem dX0_moveTo_14 : decode cX0_moveTo 14 = .ok (.aload_n 0, 1) := by decide +kernel
theorem dX0_moveTo_15 : decode cX0_moveTo 15 = .ok (.aload_n 0, 1) := by decide +kernel
theorem dX0_moveTo_16 : decode cX0_moveTo 16 = .ok (.getfield 65, 3) := by decide +kernel
theorem dX0_moveTo_19 : decode cX0_moveTo 19 = .ok (.aload_n 0, 1) := by decide +kernel
theorem dX0_moveTo_20 : decode cX0_moveTo 20 = .ok (.getfield 41, 3) := by decide +kernel
theorem dX0_moveTo_23 : decode cX0_moveTo 23 = .ok (.dadd, 1) := by decide +kernel
theorem dX0_moveTo_24 : decode cX0_moveTo 24 = .ok (.putfield 65, 3) := by decide +kernel
theorem dX0_moveTo_27 : decode cX0_moveTo 27 = .ok (.goto 38, 3) := by decide +kernel
theorem dX0_moveTo_30 : decode cX0_moveTo 30 = .ok (.dload_n 1, 1) := by decide +kernel
theorem dX0_moveTo_31 : decode cX0_moveTo 31 = .ok (.aload_n 0, 1) := by decide +kernel
theorem dX0_moveTo_32 : decode cX0_moveTo 32 = .ok (.getfield 65, 3) := by decide +kernel
theorem dX0_moveTo_35 : decode cX0_moveTo 35 = .ok (.aload_n 0, 1) := by decide +kernel
theorem dX0_moveTo_36 : decode cX0_moveTo 36 = .ok (.getfield 41, 3) := by decide +kernel
theorem dX0_moveTo_39 : decode cX0_moveTo 39 = .ok (.dsub, 1) := by decide +kernel
theorem dX0_moveTo_40 : decode cX0_moveTo 40 = .ok (.dcmp .g, 1) := by decide +kernel
theorem dX0_moveTo_41 : decode cX0_moveTo 41 = .ok (.ifCond .ge 19, 3) := by decide +kernel
theorem dX0_moveTo_44 : decode cX0_moveTo 44 = .ok (.aload_n 0, 1) := by decide +kernel
theorem dX0_moveTo_45 : decode cX0_moveTo 45 = .ok (.aload_n 0, 1) := by decide +kernel
theorem dX0_moveTo_46 : decode cX0_moveTo 46 = .ok (.getfield 65, 3) := by decide +kernel
theorem dX0_moveTo_49 : decode cX0_moveTo 49 = .ok (.aload_n 0, 1) := by decide +kernel
theorem dX0_moveTo_50 : decode cX0_moveTo 50 = .ok (.getfield 41, 3) := by decide +kernel
theorem dX0_moveTo_53 : decode cX0_moveTo 53 = .ok (.dsub, 1) := by decide +kernel
theorem dX0_moveTo_54 : decode cX0_moveTo 54 = .ok (.putfield 65, 3) := by decide +kernel
theorem dX0_moveTo_57 : decode cX0_moveTo 57 = .ok (.goto 8, 3) := by decide +kernel
theorem dX0_moveTo_60 : decode cX0_moveTo 60 = .ok (.aload_n 0, 1) := by decide +kernel
theorem dX0_moveTo_61 : decode cX0_moveTo 61 = .ok (.dload_n 1, 1) := by decide +kernel
theorem dX0_moveTo_62 : decode cX0_moveTo 62 = .ok (.putfield 65, 3) := by decide +kernel
theorem dX0_moveTo_65 : decode cX0_moveTo 65 = .ok (.return_, 1) := by decide +kernel
theorem dX0_turnTo_0 : decode cX0_turnTo 0 = .ok (.iload_n 1, 1) := by decide +kernel
theorem dX0_turnTo_1 : decode cX0_turnTo 1 = .ok (.aload_n 0, 1) := by decide +kernel
theorem dX0_turnTo_2 : decode cX0_turnTo 2 = .ok (.getfield 45, 3) := by decide +kernel
theorem dX0_turnTo_5 : decode cX0_turnTo 5 = .ok (.if_icmp .ne 4, 3) := by decide +kernel
theorem dX0_turnTo_8 : decode cX0_turnTo 8 = .ok (.return_, 1) := by decide +kernel
theorem dX0_turnTo_9 : decode cX0_turnTo 9 = .ok (.aload_n 0, 1) := by decide +kernel
theorem dX0_turnTo_10 : decode cX0_turnTo 10 = .ok (.iload_n 1, 1) := by decide +kernel
theorem dX0_turnTo_11 : decode cX0_turnTo 11 = .ok (.putfield 45, 3) := by decide +kernel
theorem dX0_turnTo_14 : decode cX0_turnTo 14 = .ok (.iload_n 1, 1) := by decide +kernel
theorem dX0_turnTo_15 : decode cX0_turnTo 15 = .ok (.ifCond .ne 14, 3) := by decide +kernel
theorem dX0_turnTo_18 : decode cX0_turnTo 18 = .ok (.aload_n 0, 1) := by decide +kernel
theorem dX0_turnTo_19 : decode cX0_turnTo 19 = .ok (.aload_n 0, 1) := by decide +kernel
theorem dX0_turnTo_20 : decode cX0_turnTo 20 = .ok (.getfield 65, 3) := by decide +kernel
theorem dX0_turnTo_23 : decode cX0_turnTo 23 = .ok (.putfield 75, 3) := by decide +kernel
theorem dX0_turnTo_26 : decode cX0_turnTo 26 = .ok (.goto 26, 3) := by decide +kernel
theorem dX0_turnTo_29 : decode cX0_turnTo 29 = .ok (.iload_n 1, 1) := by decide +kernel
theorem dX0_turnTo_30 : decode cX0_turnTo 30 = .ok (.iconst 1, 1) := by decide +kernel
theorem dX0_turnTo_31 : decode cX0_turnTo 31 = .ok (.if_icmp .ne 21, 3) := by decide +kernel
theorem dX0_turnTo_34 : decode cX0_turnTo 34 = .ok (.aload_n 0, 1) := by decide +kernel
theorem dX0_turnTo_35 : decode cX0_turnTo 35 = .ok (.aload_n 0, 1) := by decide +kernel
theorem dX0_turnTo_36 : decode cX0_turnTo 36 = .ok (.getfield 65, 3) := by decide +kernel
theorem dX0_turnTo_39 : decode cX0_turnTo 39 = .ok (.aload_n 0, 1) := by decide +kernel
theorem dX0_turnTo_40 : decode cX0_turnTo 40 = .ok (.getfield 49, 3) := by decide +kernel
theorem dX0_turnTo_43 : decode cX0_turnTo 43 = .ok (.aload_n 0, 1) := by decide +kernel
theorem dX0_turnTo_44 : decode cX0_turnTo 44 = .ok (.getfield 88, 3) := by decide +kernel
theorem dX0_turnTo_47 : decode cX0_turnTo 47 = .ok (.dmul, 1) := by decide +kernel
theorem dX0_turnTo_48 : decode cX0_turnTo 48 = .ok (.dsub, 1) := by decide +kernel
theorem dX0_turnTo_49 : decode cX0_turnTo 49 = .ok (.putfield 91, 3) := by decide +kernel
theorem dX0_turnTo_52 : decode cX0_turnTo 52 = .ok (.return_, 1) := by decide +kernel
theorem dX1_init_0 : decode cX1_init 0 = .ok (.aload_n 0, 1) := by decide +kernel
theorem dX1_init_1 : decode cX1_init 1 = .ok (.invokespecial 1, 3) := by decide +kernel
theorem dX1_init_4 : decode cX1_init 4 = .ok (.aload_n 0, 1) := by decide +kernel
theorem dX1_init_5 : decode cX1_init 5 = .ok (.dload_n 1, 1) := by decide +kernel
theorem dX1_init_6 : decode cX1_init 6 = .ok (.putfield 7, 3) := by decide +kernel
theorem dX1_init_9 : decode cX1_init 9 = .ok (.aload_n 0, 1) := by decide +kernel
theorem dX1_init_10 : decode cX1_init 10 = .ok (.dload_n 3, 1) := by decide +kernel
theorem dX1_init_11 : decode cX1_init 11 = .ok (.putfield 13, 3) := by decide +kernel
theorem dX1_init_14 : decode cX1_init 14 = .ok (.return_, 1) := by decide +kernel
theorem dX1_set_0 : decode cX1_set 0 = .ok (.aload_n 0, 1) := by decide +kernel
theorem dX1_set_1 : decode cX1_set 1 = .ok (.dload_n 1, 1) := by decide +kernel
theorem dX1_set_2 : decode cX1_set 2 = .ok (.putfield 7, 3) := by decide +kernel
theorem dX1_set_5 : decode cX1_set 5 = .ok (.aload_n 0, 1) := by decide +kernel
theorem dX1_set_6 : decode cX1_set 6 = .ok (.dload_n 3, 1) := by decide +kernel
theorem dX1_set_7 : decode cX1_set 7 = .ok (.putfield 13, 3) := by decide +kernel
theorem dX1_set_10 : decode cX1_set 10 = .ok (.return_, 1) := by decide +kernel
theorem dX1_holds_0 : decode cX1_holds 0 = .ok (.dload_n 1, 1) := by decide +kernel
theorem dX1_holds_1 : decode cX1_holds 1 = .ok (.aload_n 0, 1) := by decide +kernel
theorem dX1_holds_2 : decode cX1_holds 2 = .ok (.getfield 7, 3) := by decide +kernel
theorem dX1_holds_5 : decode cX1_holds 5 = .ok (.dcmp .l, 1) := by decide +kernel
theorem dX1_holds_6 : decode cX1_holds 6 = .ok (.ifCond .lt 16, 3) := by decide +kernel
theorem dX1_holds_9 : decode cX1_holds 9 = .ok (.dload_n 1, 1) := by decide +kernel
theorem dX1_holds_10 : decode cX1_holds 10 = .ok (.aload_n 0, 1) := by decide +kernel
theorem dX1_holds_11 : decode cX1_holds 11 = .ok (.getfield 13, 3) := by decide +kernel
theorem dX1_holds_14 : decode cX1_holds 14 = .ok (.dcmp .g, 1) := by decide +kernel
theorem dX1_holds_15 : decode cX1_holds 15 = .ok (.ifCond .gt 7, 3) := by decide +kernel
theorem dX1_holds_18 : decode cX1_holds 18 = .ok (.iconst 1, 1) := by decide +kernel
theorem dX1_holds_19 : decode cX1_holds 19 = .ok (.goto 4, 3) := by decide +kernel
theorem dX1_holds_22 : decode cX1_holds 22 = .ok (.iconst 0, 1) := by decide +kernel
theorem dX1_holds_23 : decode cX1_holds 23 = .ok (.ireturn, 1) := by decide +kernel
theorem dX1_holdsInside_0 : decode cX1_holdsInside 0 = .ok (.dload_n 1, 1) := by decide +kernel
theorem dX1_holdsInside_1 : decode cX1_holdsInside 1 = .ok (.aload_n 0, 1) := by decide +kernel
theorem dX1_holdsInside_2 : decode cX1_holdsInside 2 = .ok (.getfield 7, 3) := by decide +kernel
theorem dX1_holdsInside_5 : decode cX1_holdsInside 5 = .ok (.dcmp .l, 1) := by decide +kernel
theorem dX1_holdsInside_6 : decode cX1_holdsInside 6 = .ok (.ifCond .le 16, 3) := by decide +kernel
theorem dX1_holdsInside_9 : decode cX1_holdsInside 9 = .ok (.dload_n 1, 1) := by decide +kernel
theorem dX1_holdsInside_10 : decode cX1_holdsInside 10 = .ok (.aload_n 0, 1) := by decide +kernel
theorem dX1_holdsInside_11 : decode cX1_holdsInside 11 = .ok (.getfield 13, 3) := by decide +kernel
theorem dX1_holdsInside_14 : decode cX1_holdsInside 14 = .ok (.dcmp .g, 1) := by decide +kernel
theorem dX1_holdsInside_15 : decode cX1_holdsInside 15 = .ok (.ifCond .ge 7, 3) := by decide +kernel
theorem dX1_holdsInside_18 : decode cX1_holdsInside 18 = .ok (.iconst 1, 1) := by decide +kernel
theorem dX1_holdsInside_19 : decode cX1_holdsInside 19 = .ok (.goto 4, 3) := by decide +kernel
theorem dX1_holdsInside_22 : decode cX1_holdsInside 22 = .ok (.iconst 0, 1) := by decide +kernel
theorem dX1_holdsInside_23 : decode cX1_holdsInside 23 = .ok (.ireturn, 1) := by decide +kernel
theorem dX1_nearest_0 : decode cX1_nearest 0 = .ok (.dload_n 1, 1) := by decide +kernel
theorem dX1_nearest_1 : decode cX1_nearest 1 = .ok (.aload_n 0, 1) := by decide +kernel
theorem dX1_nearest_2 : decode cX1_nearest 2 = .ok (.getfield 7, 3) := by decide +kernel
theorem dX1_nearest_5 : decode cX1_nearest 5 = .ok (.dcmp .g, 1) := by decide +kernel
theorem dX1_nearest_6 : decode cX1_nearest 6 = .ok (.ifCond .ge 10, 3) := by decide +kernel
theorem dX1_nearest_9 : decode cX1_nearest 9 = .ok (.aload_n 0, 1) := by decide +kernel
theorem dX1_nearest_10 : decode cX1_nearest 10 = .ok (.getfield 7, 3) := by decide +kernel
theorem dX1_nearest_13 : decode cX1_nearest 13 = .ok (.goto 20, 3) := by decide +kernel
theorem dX1_nearest_16 : decode cX1_nearest 16 = .ok (.dload_n 1, 1) := by decide +kernel
theorem dX1_nearest_17 : decode cX1_nearest 17 = .ok (.aload_n 0, 1) := by decide +kernel
theorem dX1_nearest_18 : decode cX1_nearest 18 = .ok (.getfield 13, 3) := by decide +kernel
theorem dX1_nearest_21 : decode cX1_nearest 21 = .ok (.dcmp .l, 1) := by decide +kernel
theorem dX1_nearest_22 : decode cX1_nearest 22 = .ok (.ifCond .le 10, 3) := by decide +kernel
theorem dX1_nearest_25 : decode cX1_nearest 25 = .ok (.aload_n 0, 1) := by decide +kernel
theorem dX1_nearest_26 : decode cX1_nearest 26 = .ok (.getfield 13, 3) := by decide +kernel
theorem dX1_nearest_29 : decode cX1_nearest 29 = .ok (.goto 4, 3) := by decide +kernel
theorem dX1_nearest_32 : decode cX1_nearest 32 = .ok (.dload_n 1, 1) := by decide +kernel
theorem dX1_nearest_33 : decode cX1_nearest 33 = .ok (.dreturn, 1) := by decide +kernel
theorem dX2_init_0 : decode cX2_init 0 = .ok (.aload_n 0, 1) := by decide +kernel
theorem dX2_init_1 : decode cX2_init 1 = .ok (.invokespecial 1, 3) := by decide +kernel
theorem dX2_init_4 : decode cX2_init 4 = .ok (.aload_n 0, 1) := by decide +kernel
theorem dX2_init_5 : decode cX2_init 5 = .ok (.aload_n 1, 1) := by decide +kernel
theorem dX2_init_6 : decode cX2_init 6 = .ok (.putfield 7, 3) := by decide +kernel
theorem dX2_init_9 : decode cX2_init 9 = .ok (.aload_n 0, 1) := by decide +kernel
theorem dX2_init_10 : decode cX2_init 10 = .ok (.dload_n 2, 1) := by decide +kernel
theorem dX2_init_11 : decode cX2_init 11 = .ok (.putfield 13, 3) := by decide +kernel
theorem dX2_init_14 : decode cX2_init 14 = .ok (.return_, 1) := by decide +kernel
theorem dX2_share_0 : decode cX2_share 0 = .ok (.aload_n 0, 1) := by decide +kernel
theorem dX2_share_1 : decode cX2_share 1 = .ok (.getfield 7, 3) := by decide +kernel
theorem dX2_share_4 : decode cX2_share 4 = .ok (.getfield 17, 3) := by decide +kernel
theorem dX2_share_7 : decode cX2_share 7 = .ok (.astore_n 2, 1) := by decide +kernel
theorem dX2_share_8 : decode cX2_share 8 = .ok (.aload_n 2, 1) := by decide +kernel
theorem dX2_share_9 : decode cX2_share 9 = .ok (.aload_n 0, 1) := by decide +kernel
theorem dX2_share_10 : decode cX2_share 10 = .ok (.getfield 13, 3) := by decide +kernel
theorem dX2_share_13 : decode cX2_share 13 = .ok (.invokevirtual 23, 3) := by decide +kernel
theorem dX2_share_16 : decode cX2_share 16 = .ok (.ifCond .ne 5, 3) := by decide +kernel
theorem dX2_share_19 : decode cX2_share 19 = .ok (.dconst 0, 1) := by decide +kernel
theorem dX2_share_20 : decode cX2_share 20 = .ok (.dreturn, 1) := by decide +kernel
theorem dX2_share_21 : decode cX2_share 21 = .ok (.iload_n 1, 1) := by decide +kernel
theorem dX2_share_22 : decode cX2_share 22 = .ok (.ifCond .ne 32, 3) := by decide +kernel
theorem dX2_share_25 : decode cX2_share 25 = .ok (.aload_n 0, 1) := by decide +kernel
theorem dX2_share_26 : decode cX2_share 26 = .ok (.getfield 7, 3) := by decide +kernel
theorem dX2_share_29 : decode cX2_share 29 = .ok (.getfield 29, 3) := by decide +kernel
theorem dX2_share_32 : decode cX2_share 32 = .ok (.aload_n 2, 1) := by decide +kernel
theorem dX2_share_33 : decode cX2_share 33 = .ok (.getfield 32, 3) := by decide +kernel
theorem dX2_share_36 : decode cX2_share 36 = .ok (.dsub, 1) := by decide +kernel
theorem dX2_share_37 : decode cX2_share 37 = .ok (.aload_n 0, 1) := by decide +kernel
theorem dX2_share_38 : decode cX2_share 38 = .ok (.getfield 13, 3) := by decide +kernel
theorem dX2_share_41 : decode cX2_share 41 = .ok (.aload_n 2, 1) := by decide +kernel
theorem dX2_share_42 : decode cX2_share 42 = .ok (.getfield 32, 3) := by decide +kernel
theorem dX2_share_45 : decode cX2_share 45 = .ok (.dsub, 1) := by decide +kernel
theorem dX2_share_46 : decode cX2_share 46 = .ok (.ddiv, 1) := by decide +kernel
theorem dX2_share_47 : decode cX2_share 47 = .ok (.ldc2_w 35, 3) := by decide +kernel
theorem dX2_share_50 : decode cX2_share 50 = .ok (.dmul, 1) := by decide +kernel
theorem dX2_share_51 : decode cX2_share 51 = .ok (.goto 29, 3) := by decide +kernel
theorem dX2_share_54 : decode cX2_share 54 = .ok (.aload_n 0, 1) := by decide +kernel
theorem dX2_share_55 : decode cX2_share 55 = .ok (.getfield 7, 3) := by decide +kernel
theorem dX2_share_58 : decode cX2_share 58 = .ok (.getfield 29, 3) := by decide +kernel
theorem dX2_share_61 : decode cX2_share 61 = .ok (.aload_n 0, 1) := by decide +kernel
theorem dX2_share_62 : decode cX2_share 62 = .ok (.getfield 13, 3) := by decide +kernel
theorem dX2_share_65 : decode cX2_share 65 = .ok (.dsub, 1) := by decide +kernel
theorem dX2_share_66 : decode cX2_share 66 = .ok (.aload_n 2, 1) := by decide +kernel
theorem dX2_share_67 : decode cX2_share 67 = .ok (.getfield 37, 3) := by decide +kernel
theorem dX2_share_70 : decode cX2_share 70 = .ok (.aload_n 0, 1) := by decide +kernel
theorem dX2_share_71 : decode cX2_share 71 = .ok (.getfield 13, 3) := by decide +kernel
theorem dX2_share_74 : decode cX2_share 74 = .ok (.dsub, 1) := by decide +kernel
theorem dX2_share_75 : decode cX2_share 75 = .ok (.ddiv, 1) := by decide +kernel
theorem dX2_share_76 : decode cX2_share 76 = .ok (.ldc2_w 35, 3) := by decide +kernel
theorem dX2_share_79 : decode cX2_share 79 = .ok (.dmul, 1) := by decide +kernel
theorem dX2_share_80 : decode cX2_share 80 = .ok (.dstore_n 3, 1) := by decide +kernel
theorem dX2_share_81 : decode cX2_share 81 = .ok (.dload_n 3, 1) := by decide +kernel
theorem dX2_share_82 : decode cX2_share 82 = .ok (.dconst 0, 1) := by decide +kernel
theorem dX2_share_83 : decode cX2_share 83 = .ok (.dcmp .g, 1) := by decide +kernel
theorem dX2_share_84 : decode cX2_share 84 = .ok (.ifCond .ge 7, 3) := by decide +kernel
theorem dX2_share_87 : decode cX2_share 87 = .ok (.dconst 0, 1) := by decide +kernel
theorem dX2_share_88 : decode cX2_share 88 = .ok (.goto 18, 3) := by decide +kernel
theorem dX2_share_91 : decode cX2_share 91 = .ok (.dload_n 3, 1) := by decide +kernel
theorem dX2_share_92 : decode cX2_share 92 = .ok (.ldc2_w 35, 3) := by decide +kernel
theorem dX2_share_95 : decode cX2_share 95 = .ok (.dcmp .l, 1) := by decide +kernel
theorem dX2_share_96 : decode cX2_share 96 = .ok (.ifCond .le 9, 3) := by decide +kernel
theorem dX2_share_99 : decode cX2_share 99 = .ok (.ldc2_w 35, 3) := by decide +kernel
theorem dX2_share_102 : decode cX2_share 102 = .ok (.goto 4, 3) := by decide +kernel
theorem dX2_share_105 : decode cX2_share 105 = .ok (.dload_n 3, 1) := by decide +kernel
theorem dX2_share_106 : decode cX2_share 106 = .ok (.dreturn, 1) := by decide +kernel
theorem dX3_init_0 : decode cX3_init 0 = .ok (.aload_n 0, 1) := by decide +kernel
theorem dX3_init_1 : decode cX3_init 1 = .ok (.invokespecial 1, 3) := by decide +kernel
theorem dX3_init_4 : decode cX3_init 4 = .ok (.return_, 1) := by decide +kernel
theorem dX3_run_0 : decode cX3_run 0 = .ok (.aload_n 0, 1) := by decide +kernel
theorem dX3_run_1 : decode cX3_run 1 = .ok (.dconst 0, 1) := by decide +kernel
theorem dX3_run_2 : decode cX3_run 2 = .ok (.putfield 7, 3) := by decide +kernel
theorem dX3_run_5 : decode cX3_run 5 = .ok (.aload_n 0, 1) := by decide +kernel
theorem dX3_run_6 : decode cX3_run 6 = .ok (.iconst 0, 1) := by decide +kernel
theorem dX3_run_7 : decode cX3_run 7 = .ok (.putfield 13, 3) := by decide +kernel
theorem dX3_run_10 : decode cX3_run 10 = .ok (.aload_n 0, 1) := by decide +kernel
theorem dX3_run_11 : decode cX3_run 11 = .ok (.iconst 0, 1) := by decide +kernel
theorem dX3_run_12 : decode cX3_run 12 = .ok (.putfield 17, 3) := by decide +kernel
theorem dX3_run_15 : decode cX3_run 15 = .ok (.aload_n 0, 1) := by decide +kernel
theorem dX3_run_16 : decode cX3_run 16 = .ok (.iconst 0, 1) := by decide +kernel
theorem dX3_run_17 : decode cX3_run 17 = .ok (.putfield 20, 3) := by decide +kernel
theorem dX3_run_20 : decode cX3_run 20 = .ok (.aload_n 0, 1) := by decide +kernel
theorem dX3_run_21 : decode cX3_run 21 = .ok (.iconst 0, 1) := by decide +kernel
theorem dX3_run_22 : decode cX3_run 22 = .ok (.putfield 23, 3) := by decide +kernel
theorem dX3_run_25 : decode cX3_run 25 = .ok (.iconst 0, 1) := by decide +kernel
theorem dX3_run_26 : decode cX3_run 26 = .ok (.istore_n 2, 1) := by decide +kernel
theorem dX3_run_27 : decode cX3_run 27 = .ok (.iload_n 2, 1) := by decide +kernel
theorem dX3_run_28 : decode cX3_run 28 = .ok (.iload_n 1, 1) := by decide +kernel
theorem dX3_run_29 : decode cX3_run 29 = .ok (.if_icmp .ge 14, 3) := by decide +kernel
theorem dX3_run_32 : decode cX3_run 32 = .ok (.aload_n 0, 1) := by decide +kernel
theorem dX3_run_33 : decode cX3_run 33 = .ok (.iload_n 2, 1) := by decide +kernel
theorem dX3_run_34 : decode cX3_run 34 = .ok (.invokevirtual 26, 3) := by decide +kernel
theorem dX3_run_37 : decode cX3_run 37 = .ok (.iinc 2 1, 3) := by decide +kernel
theorem dX3_run_40 : decode cX3_run 40 = .ok (.goto (-13), 3) := by decide +kernel
theorem dX3_run_43 : decode cX3_run 43 = .ok (.aload_n 0, 1) := by decide +kernel
theorem dX3_run_44 : decode cX3_run 44 = .ok (.getfield 17, 3) := by decide +kernel
theorem dX3_run_47 : decode cX3_run 47 = .ok (.ireturn, 1) := by decide +kernel
theorem dX3_step_0 : decode cX3_step 0 = .ok (.aload_n 0, 1) := by decide +kernel
theorem dX3_step_1 : decode cX3_step 1 = .ok (.getfield 7, 3) := by decide +kernel
theorem dX3_step_4 : decode cX3_step 4 = .ok (.ldc2_w 30, 3) := by decide +kernel
theorem dX3_step_7 : decode cX3_step 7 = .ok (.dcmp .g, 1) := by decide +kernel
theorem dX3_step_8 : decode cX3_step 8 = .ok (.ifCond .ge 7, 3) := by decide +kernel
theorem dX3_step_11 : decode cX3_step 11 = .ok (.iconst 1, 1) := by decide +kernel
theorem dX3_step_12 : decode cX3_step 12 = .ok (.goto 4, 3) := by decide +kernel
theorem dX3_step_15 : decode cX3_step 15 = .ok (.iconst 0, 1) := by decide +kernel
theorem dX3_step_16 : decode cX3_step 16 = .ok (.istore_n 2, 1) := by decide +kernel
theorem dX3_step_17 : decode cX3_step 17 = .ok (.iload_n 1, 1) := by decide +kernel
theorem dX3_step_18 : decode cX3_step 18 = .ok (.ifCond .le 17, 3) := by decide +kernel
theorem dX3_step_21 : decode cX3_step 21 = .ok (.iload_n 2, 1) := by decide +kernel
theorem dX3_step_22 : decode cX3_step 22 = .ok (.aload_n 0, 1) := by decide +kernel
theorem dX3_step_23 : decode cX3_step 23 = .ok (.getfield 13, 3) := by decide +kernel
theorem dX3_step_26 : decode cX3_step 26 = .ok (.iconst 1, 1) := by decide +kernel
theorem dX3_step_27 : decode cX3_step 27 = .ok (.iand, 1) := by decide +kernel
theorem dX3_step_28 : decode cX3_step 28 = .ok (.if_icmp .eq 7, 3) := by decide +kernel
theorem dX3_step_31 : decode cX3_step 31 = .ok (.iconst 1, 1) := by decide +kernel
theorem dX3_step_32 : decode cX3_step 32 = .ok (.goto 4, 3) := by decide +kernel
theorem dX3_step_35 : decode cX3_step 35 = .ok (.iconst 0, 1) := by decide +kernel
theorem dX3_step_36 : decode cX3_step 36 = .ok (.istore_n 3, 1) := by decide +kernel
theorem dX3_step_37 : decode cX3_step 37 = .ok (.iload_n 3, 1) := by decide +kernel
theorem dX3_step_38 : decode cX3_step 38 = .ok (.ifCond .eq 9, 3) := by decide +kernel
theorem dX3_step_41 : decode cX3_step 41 = .ok (.aload_n 0, 1) := by decide +kernel
theorem dX3_step_42 : decode cX3_step 42 = .ok (.iload_n 1, 1) := by decide +kernel
theorem dX3_step_43 : decode cX3_step 43 = .ok (.iload_n 2, 1) := by decide +kernel
theorem dX3_step_44 : decode cX3_step 44 = .ok (.invokevirtual 32, 3) := by decide +kernel
theorem dX3_step_47 : decode cX3_step 47 = .ok (.aload_n 0, 1) := by decide +kernel
theorem dX3_step_48 : decode cX3_step 48 = .ok (.getfield 13, 3) := by decide +kernel
theorem dX3_step_51 : decode cX3_step 51 = .ok (.iconst 3, 1) := by decide +kernel
theorem dX3_step_52 : decode cX3_step 52 = .ok (.ishr, 1) := by decide +kernel
theorem dX3_step_53 : decode cX3_step 53 = .ok (.iconst 1, 1) := by decide +kernel
theorem dX3_step_54 : decode cX3_step 54 = .ok (.iand, 1) := by decide +kernel
theorem dX3_step_55 : decode cX3_step 55 = .ok (.istore 4, 2) := by decide +kernel
theorem dX3_step_57 : decode cX3_step 57 = .ok (.aload_n 0, 1) := by decide +kernel
theorem dX3_step_58 : decode cX3_step 58 = .ok (.aload_n 0, 1) := by decide +kernel
theorem dX3_step_59 : decode cX3_step 59 = .ok (.getfield 13, 3) := by decide +kernel
theorem dX3_step_62 : decode cX3_step 62 = .ok (.iconst 1, 1) := by decide +kernel
theorem dX3_step_63 : decode cX3_step 63 = .ok (.ishl, 1) := by decide +kernel
theorem dX3_step_64 : decode cX3_step 64 = .ok (.iload_n 2, 1) := by decide +kernel
theorem dX3_step_65 : decode cX3_step 65 = .ok (.ior, 1) := by decide +kernel
theorem dX3_step_66 : decode cX3_step 66 = .ok (.bipush 15, 2) := by decide +kernel
theorem dX3_step_68 : decode cX3_step 68 = .ok (.iand, 1) := by decide +kernel
theorem dX3_step_69 : decode cX3_step 69 = .ok (.putfield 13, 3) := by decide +kernel
theorem dX3_step_72 : decode cX3_step 72 = .ok (.aload_n 0, 1) := by decide +kernel
theorem dX3_step_73 : decode cX3_step 73 = .ok (.aload_n 0, 1) := by decide +kernel
theorem dX3_step_74 : decode cX3_step 74 = .ok (.getfield 7, 3) := by decide +kernel
theorem dX3_step_77 : decode cX3_step 77 = .ok (.iload 4, 2) := by decide +kernel
theorem dX3_step_79 : decode cX3_step 79 = .ok (.i2d, 1) := by decide +kernel
theorem dX3_step_80 : decode cX3_step 80 = .ok (.aload_n 0, 1) := by decide +kernel
theorem dX3_step_81 : decode cX3_step 81 = .ok (.getfield 7, 3) := by decide +kernel
theorem dX3_step_84 : decode cX3_step 84 = .ok (.dsub, 1) := by decide +kernel
theorem dX3_step_85 : decode cX3_step 85 = .ok (.ldc2_w 36, 3) := by decide +kernel
theorem dX3_step_88 : decode cX3_step 88 = .ok (.dmul, 1) := by decide +kernel
theorem dX3_step_89 : decode cX3_step 89 = .ok (.dadd, 1) := by decide +kernel
theorem dX3_step_90 : decode cX3_step 90 = .ok (.putfield 7, 3) := by decide +kernel
theorem dX3_step_93 : decode cX3_step 93 = .ok (.aload_n 0, 1) := by decide +kernel
theorem dX3_step_94 : decode cX3_step 94 = .ok (.getfield 17, 3) := by decide +kernel
theorem dX3_step_97 : decode cX3_step 97 = .ok (.ifCond .le 24, 3) := by decide +kernel
theorem dX3_step_100 : decode cX3_step 100 = .ok (.aload_n 0, 1) := by decide +kernel
theorem dX3_step_101 : decode cX3_step 101 = .ok (.iload_n 3, 1) := by decide +kernel
theorem dX3_step_102 : decode cX3_step 102 = .ok (.ifCond .eq 15, 3) := by decide +kernel
theorem dX3_step_105 : decode cX3_step 105 = .ok (.aload_n 0, 1) := by decide +kernel
theorem dX3_step_106 : decode cX3_step 106 = .ok (.getfield 17, 3) := by decide +kernel
theorem dX3_step_109 : decode cX3_step 109 = .ok (.iconst 1, 1) := by decide +kernel
theorem dX3_step_110 : decode cX3_step 110 = .ok (.if_icmp .ne 7, 3) := by decide +kernel
theorem dX3_step_113 : decode cX3_step 113 = .ok (.iconst 1, 1) := by decide +kernel
theorem dX3_step_114 : decode cX3_step 114 = .ok (.goto 4, 3) := by decide +kernel
theorem dX3_step_117 : decode cX3_step 117 = .ok (.iconst 0, 1) := by decide +kernel
theorem dX3_step_118 : decode cX3_step 118 = .ok (.invokevirtual 38, 3) := by decide +kernel
theorem dX3_step_121 : decode cX3_step 121 = .ok (.return_, 1) := by decide +kernel
theorem dX3_countSwitch_0 : decode cX3_countSwitch 0 = .ok (.aload_n 0, 1) := by decide +kernel
theorem dX3_countSwitch_1 : decode cX3_countSwitch 1 = .ok (.dup, 1) := by decide +kernel
theorem dX3_countSwitch_2 : decode cX3_countSwitch 2 = .ok (.getfield 17, 3) := by decide +kernel
theorem dX3_countSwitch_5 : decode cX3_countSwitch 5 = .ok (.iconst 1, 1) := by decide +kernel
theorem dX3_countSwitch_6 : decode cX3_countSwitch 6 = .ok (.iadd, 1) := by decide +kernel
theorem dX3_countSwitch_7 : decode cX3_countSwitch 7 = .ok (.putfield 17, 3) := by decide +kernel
theorem dX3_countSwitch_10 : decode cX3_countSwitch 10 = .ok (.iload_n 2, 1) := by decide +kernel
theorem dX3_countSwitch_11 : decode cX3_countSwitch 11 = .ok (.iconst 1, 1) := by decide +kernel
theorem dX3_countSwitch_12 : decode cX3_countSwitch 12 = .ok (.if_icmp .ne 29, 3) := by decide +kernel
theorem dX3_countSwitch_15 : decode cX3_countSwitch 15 = .ok (.aload_n 0, 1) := by decide +kernel
theorem dX3_countSwitch_16 : decode cX3_countSwitch 16 = .ok (.aload_n 0, 1) := by decide +kernel
theorem dX3_countSwitch_17 : decode cX3_countSwitch 17 = .ok (.getfield 20, 3) := by decide +kernel
theorem dX3_countSwitch_20 : decode cX3_countSwitch 20 = .ok (.ifCond .ne 7, 3) := by decide +kernel
theorem dX3_countSwitch_23 : decode cX3_countSwitch 23 = .ok (.iconst 0, 1) := by decide +kernel
theorem dX3_countSwitch_24 : decode cX3_countSwitch 24 = .ok (.goto 9, 3) := by decide +kernel
theorem dX3_countSwitch_27 : decode cX3_countSwitch 27 = .ok (.iload_n 1, 1) := by decide +kernel
theorem dX3_countSwitch_28 : decode cX3_countSwitch 28 = .ok (.aload_n 0, 1) := by decide +kernel
theorem dX3_countSwitch_29 : decode cX3_countSwitch 29 = .ok (.getfield 20, 3) := by decide +kernel
theorem dX3_countSwitch_32 : decode cX3_countSwitch 32 = .ok (.isub, 1) := by decide +kernel
theorem dX3_countSwitch_33 : decode cX3_countSwitch 33 = .ok (.putfield 23, 3) := by decide +kernel
theorem dX3_countSwitch_36 : decode cX3_countSwitch 36 = .ok (.aload_n 0, 1) := by decide +kernel
theorem dX3_countSwitch_37 : decode cX3_countSwitch 37 = .ok (.iload_n 1, 1) := by decide +kernel
theorem dX3_countSwitch_38 : decode cX3_countSwitch 38 = .ok (.putfield 20, 3) := by decide +kernel
theorem dX3_countSwitch_41 : decode cX3_countSwitch 41 = .ok (.return_, 1) := by decide +kernel
theorem dX3_keepLevel_0 : decode cX3_keepLevel 0 = .ok (.aload_n 0, 1) := by decide +kernel
theorem dX3_keepLevel_1 : decode cX3_keepLevel 1 = .ok (.iload_n 1, 1) := by decide +kernel
theorem dX3_keepLevel_2 : decode cX3_keepLevel 2 = .ok (.ifCond .ne 15, 3) := by decide +kernel
theorem dX3_keepLevel_5 : decode cX3_keepLevel 5 = .ok (.aload_n 0, 1) := by decide +kernel
theorem dX3_keepLevel_6 : decode cX3_keepLevel 6 = .ok (.getfield 7, 3) := by decide +kernel
theorem dX3_keepLevel_9 : decode cX3_keepLevel 9 = .ok (.aload_n 0, 1) := by decide +kernel
theorem dX3_keepLevel_10 : decode cX3_keepLevel 10 = .ok (.getfield 42, 3) := by decide +kernel
theorem dX3_keepLevel_13 : decode cX3_keepLevel 13 = .ok (.dcmp .g, 1) := by decide +kernel
theorem dX3_keepLevel_14 : decode cX3_keepLevel 14 = .ok (.ifCond .ge 10, 3) := by decide +kernel
theorem dX3_keepLevel_17 : decode cX3_keepLevel 17 = .ok (.aload_n 0, 1) := by decide +kernel
theorem dX3_keepLevel_18 : decode cX3_keepLevel 18 = .ok (.getfield 7, 3) := by decide +kernel
theorem dX3_keepLevel_21 : decode cX3_keepLevel 21 = .ok (.goto 7, 3) := by decide +kernel
theorem dX3_keepLevel_24 : decode cX3_keepLevel 24 = .ok (.aload_n 0, 1) := by decide +kernel
theorem dX3_keepLevel_25 : decode cX3_keepLevel 25 = .ok (.getfield 42, 3) := by decide +kernel
theorem dX3_keepLevel_28 : decode cX3_keepLevel 28 = .ok (.putfield 42, 3) := by decide +kernel
theorem dX3_keepLevel_31 : decode cX3_keepLevel 31 = .ok (.aload_n 0, 1) := by decide +kernel
theorem dX3_keepLevel_32 : decode cX3_keepLevel 32 = .ok (.iload_n 1, 1) := by decide +kernel
theorem dX3_keepLevel_33 : decode cX3_keepLevel 33 = .ok (.ifCond .ne 15, 3) := by decide +kernel
theorem dX3_keepLevel_36 : decode cX3_keepLevel 36 = .ok (.aload_n 0, 1) := by decide +kernel
theorem dX3_keepLevel_37 : decode cX3_keepLevel 37 = .ok (.getfield 7, 3) := by decide +kernel
theorem dX3_keepLevel_40 : decode cX3_keepLevel 40 = .ok (.aload_n 0, 1) := by decide +kernel
theorem dX3_keepLevel_41 : decode cX3_keepLevel 41 = .ok (.getfield 45, 3) := by decide +kernel
theorem dX3_keepLevel_44 : decode cX3_keepLevel 44 = .ok (.dcmp .l, 1) := by decide +kernel
theorem dX3_keepLevel_45 : decode cX3_keepLevel 45 = .ok (.ifCond .le 10, 3) := by decide +kernel
theorem dX3_keepLevel_48 : decode cX3_keepLevel 48 = .ok (.aload_n 0, 1) := by decide +kernel
theorem dX3_keepLevel_49 : decode cX3_keepLevel 49 = .ok (.getfield 7, 3) := by decide +kernel
theorem dX3_keepLevel_52 : decode cX3_keepLevel 52 = .ok (.goto 7, 3) := by decide +kernel
theorem dX3_keepLevel_55 : decode cX3_keepLevel 55 = .ok (.aload_n 0, 1) := by decide +kernel
theorem dX3_keepLevel_56 : decode cX3_keepLevel 56 = .ok (.getfield 45, 3) := by decide +kernel
theorem dX3_keepLevel_59 : decode cX3_keepLevel 59 = .ok (.putfield 45, 3) := by decide +kernel
theorem dX3_keepLevel_62 : decode cX3_keepLevel 62 = .ok (.return_, 1) := by decide +kernel
theorem dX3_gain_0 : decode cX3_gain 0 = .ok (.aload_n 0, 1) := by decide +kernel
theorem dX3_gain_1 : decode cX3_gain 1 = .ok (.getfield 45, 3) := by decide +kernel
theorem dX3_gain_4 : decode cX3_gain 4 = .ok (.aload_n 0, 1) := by decide +kernel
theorem dX3_gain_5 : decode cX3_gain 5 = .ok (.getfield 42, 3) := by decide +kernel
theorem dX3_gain_8 : decode cX3_gain 8 = .ok (.dsub, 1) := by decide +kernel
theorem dX3_gain_9 : decode cX3_gain 9 = .ok (.ldc2_w 30, 3) := by decide +kernel
theorem dX3_gain_12 : decode cX3_gain 12 = .ok (.dmul, 1) := by decide +kernel
theorem dX3_gain_13 : decode cX3_gain 13 = .ok (.dstore_n 2, 1) := by decide +kernel
theorem dX3_gain_14 : decode cX3_gain 14 = .ok (.aload_n 0, 1) := by decide +kernel
theorem dX3_gain_15 : decode cX3_gain 15 = .ok (.getfield 23, 3) := by decide +kernel
theorem dX3_gain_18 : decode cX3_gain 18 = .ok (.ifCond .eq 9, 3) := by decide +kernel
theorem dX3_gain_21 : decode cX3_gain 21 = .ok (.dload_n 2, 1) := by decide +kernel
theorem dX3_gain_22 : decode cX3_gain 22 = .ok (.dconst 0, 1) := by decide +kernel
theorem dX3_gain_23 : decode cX3_gain 23 = .ok (.dcmp .g, 1) := by decide +kernel
theorem dX3_gain_24 : decode cX3_gain 24 = .ok (.ifCond .gt 5, 3) := by decide +kernel
theorem dX3_gain_27 : decode cX3_gain 27 = .ok (.dconst 0, 1) := by decide +kernel
theorem dX3_gain_28 : decode cX3_gain 28 = .ok (.dreturn, 1) := by decide +kernel
theorem dX3_gain_29 : decode cX3_gain 29 = .ok (.dconst 1, 1) := by decide +kernel
theorem dX3_gain_30 : decode cX3_gain 30 = .ok (.dload_n 2, 1) := by decide +kernel
theorem dX3_gain_31 : decode cX3_gain 31 = .ok (.ddiv, 1) := by decide +kernel
theorem dX3_gain_32 : decode cX3_gain 32 = .ok (.dstore 4, 2) := by decide +kernel
theorem dX3_gain_34 : decode cX3_gain 34 = .ok (.iload_n 1, 1) := by decide +kernel
theorem dX3_gain_35 : decode cX3_gain 35 = .ok (.tableswitch 54 0 2 #[25, 32, 41], 25) := by decide +kernel
theorem dX3_gain_60 : decode cX3_gain 60 = .ok (.ldc2_w 30, 3) := by decide +kernel
theorem dX3_gain_63 : decode cX3_gain 63 = .ok (.dload 4, 2) := by decide +kernel
theorem dX3_gain_65 : decode cX3_gain 65 = .ok (.dmul, 1) := by decide +kernel
theorem dX3_gain_66 : decode cX3_gain 66 = .ok (.dreturn, 1) := by decide +kernel
theorem dX3_gain_67 : decode cX3_gain 67 = .ok (.dload 4, 2) := by decide +kernel
theorem dX3_gain_69 : decode cX3_gain 69 = .ok (.aload_n 0, 1) := by decide +kernel
theorem dX3_gain_70 : decode cX3_gain 70 = .ok (.getfield 23, 3) := by decide +kernel
theorem dX3_gain_73 : decode cX3_gain 73 = .ok (.i2d, 1) := by decide +kernel
theorem dX3_gain_74 : decode cX3_gain 74 = .ok (.ddiv, 1) := by decide +kernel
theorem dX3_gain_75 : decode cX3_gain 75 = .ok (.dreturn, 1) := by decide +kernel
theorem dX3_gain_76 : decode cX3_gain 76 = .ok (.ldc2_w 36, 3) := by decide +kernel
theorem dX3_gain_79 : decode cX3_gain 79 = .ok (.dload 4, 2) := by decide +kernel
theorem dX3_gain_81 : decode cX3_gain 81 = .ok (.dmul, 1) := by decide +kernel
theorem dX3_gain_82 : decode cX3_gain 82 = .ok (.aload_n 0, 1) := by decide +kernel
theorem dX3_gain_83 : decode cX3_gain 83 = .ok (.getfield 23, 3) := by decide +kernel
theorem dX3_gain_86 : decode cX3_gain 86 = .ok (.i2d, 1) := by decide +kernel
theorem dX3_gain_87 : decode cX3_gain 87 = .ok (.dmul, 1) := by decide +kernel
theorem dX3_gain_88 : decode cX3_gain 88 = .ok (.dreturn, 1) := by decide +kernel
theorem dX3_gain_89 : decode cX3_gain 89 = .ok (.dconst 0, 1) := by decide +kernel
theorem dX3_gain_90 : decode cX3_gain 90 = .ok (.dreturn, 1) := by decide +kernel
theorem dX4_init_0 : decode cX4_init 0 = .ok (.aload_n 0, 1) := by decide +kernel
theorem dX4_init_1 : decode cX4_init 1 = .ok (.invokespecial 1, 3) := by decide +kernel
theorem dX4_init_4 : decode cX4_init 4 = .ok (.aload_n 0, 1) := by decide +kernel
theorem dX4_init_5 : decode cX4_init 5 = .ok (.bipush 16, 2) := by decide +kernel
theorem dX4_init_7 : decode cX4_init 7 = .ok (.anewarray 9, 3) := by decide +kernel
theorem dX4_init_10 : decode cX4_init 10 = .ok (.putfield 11, 3) := by decide +kernel
theorem dX4_init_13 : decode cX4_init 13 = .ok (.aload_n 0, 1) := by decide +kernel
theorem dX4_init_14 : decode cX4_init 14 = .ok (.bipush 16, 2) := by decide +kernel
theorem dX4_init_16 : decode cX4_init 16 = .ok (.anewarray 15, 3) := by decide +kernel
theorem dX4_init_19 : decode cX4_init 19 = .ok (.putfield 17, 3) := by decide +kernel
theorem dX4_init_22 : decode cX4_init 22 = .ok (.return_, 1) := by decide +kernel
theorem dX4_loop_0 : decode cX4_loop 0 = .ok (.dload_n 1, 1) := by decide +kernel
theorem dX4_loop_1 : decode cX4_loop 1 = .ok (.invokestatic 21, 3) := by decide +kernel
theorem dX4_loop_4 : decode cX4_loop 4 = .ok (.ifCond .eq 18, 3) := by decide +kernel
theorem dX4_loop_7 : decode cX4_loop 7 = .ok (.dload_n 3, 1) := by decide +kernel
theorem dX4_loop_8 : decode cX4_loop 8 = .ok (.invokestatic 21, 3) := by decide +kernel
theorem dX4_loop_11 : decode cX4_loop 11 = .ok (.ifCond .eq 11, 3) := by decide +kernel
theorem dX4_loop_14 : decode cX4_loop 14 = .ok (.dload 5, 2) := by decide +kernel
theorem dX4_loop_16 : decode cX4_loop 16 = .ok (.invokestatic 21, 3) := by decide +kernel
theorem dX4_loop_19 : decode cX4_loop 19 = .ok (.ifCond .ne 5, 3) := by decide +kernel
theorem dX4_loop_22 : decode cX4_loop 22 = .ok (.iconst (-1), 1) := by decide +kernel
theorem dX4_loop_23 : decode cX4_loop 23 = .ok (.ireturn, 1) := by decide +kernel
theorem dX4_loop_24 : decode cX4_loop 24 = .ok (.aload_n 0, 1) := by decide +kernel
theorem dX4_loop_25 : decode cX4_loop 25 = .ok (.getfield 25, 3) := by decide +kernel
theorem dX4_loop_28 : decode cX4_loop 28 = .ok (.aload_n 0, 1) := by decide +kernel
theorem dX4_loop_29 : decode cX4_loop 29 = .ok (.getfield 11, 3) := by decide +kernel
theorem dX4_loop_32 : decode cX4_loop 32 = .ok (.arraylength, 1) := by decide +kernel
theorem dX4_loop_33 : decode cX4_loop 33 = .ok (.if_icmp .lt 6, 3) := by decide +kernel
theorem dX4_loop_36 : decode cX4_loop 36 = .ok (.bipush (-2), 2) := by decide +kernel
theorem dX4_loop_38 : decode cX4_loop 38 = .ok (.ireturn, 1) := by decide +kernel
theorem dX4_loop_39 : decode cX4_loop 39 = .ok (.aload_n 0, 1) := by decide +kernel
theorem dX4_loop_40 : decode cX4_loop 40 = .ok (.getfield 25, 3) := by decide +kernel
theorem dX4_loop_43 : decode cX4_loop 43 = .ok (.istore 7, 2) := by decide +kernel
theorem dX4_loop_45 : decode cX4_loop 45 = .ok (.aload_n 0, 1) := by decide +kernel
theorem dX4_loop_46 : decode cX4_loop 46 = .ok (.getfield 11, 3) := by decide +kernel
theorem dX4_loop_49 : decode cX4_loop 49 = .ok (.iload 7, 2) := by decide +kernel
theorem dX4_loop_51 : decode cX4_loop 51 = .ok (.new 9, 3) := by decide +kernel
theorem dX4_loop_54 : decode cX4_loop 54 = .ok (.dup, 1) := by decide +kernel
theorem dX4_loop_55 : decode cX4_loop 55 = .ok (.dload_n 1, 1) := by decide +kernel
theorem dX4_loop_56 : decode cX4_loop 56 = .ok (.dload_n 3, 1) := by decide +kernel
theorem dX4_loop_57 : decode cX4_loop 57 = .ok (.dload 5, 2) := by decide +kernel
theorem dX4_loop_59 : decode cX4_loop 59 = .ok (.invokespecial 29, 3) := by decide +kernel
theorem dX4_loop_62 : decode cX4_loop 62 = .ok (.aastore, 1) := by decide +kernel
theorem dX4_loop_63 : decode cX4_loop 63 = .ok (.aload_n 0, 1) := by decide +kernel
theorem dX4_loop_64 : decode cX4_loop 64 = .ok (.iload 7, 2) := by decide +kernel
theorem dX4_loop_66 : decode cX4_loop 66 = .ok (.iconst 1, 1) := by decide +kernel
theorem dX4_loop_67 : decode cX4_loop 67 = .ok (.iadd, 1) := by decide +kernel
theorem dX4_loop_68 : decode cX4_loop 68 = .ok (.putfield 25, 3) := by decide +kernel
theorem dX4_loop_71 : decode cX4_loop 71 = .ok (.iload 7, 2) := by decide +kernel
theorem dX4_loop_73 : decode cX4_loop 73 = .ok (.ireturn, 1) := by decide +kernel
theorem dX4_limits_0 : decode cX4_limits 0 = .ok (.aload_n 0, 1) := by decide +kernel
theorem dX4_limits_1 : decode cX4_limits 1 = .ok (.iload_n 1, 1) := by decide +kernel
theorem dX4_limits_2 : decode cX4_limits 2 = .ok (.invokevirtual 32, 3) := by decide +kernel
theorem dX4_limits_5 : decode cX4_limits 5 = .ok (.astore 8, 2) := by decide +kernel
theorem dX4_limits_7 : decode cX4_limits 7 = .ok (.aload 8, 2) := by decide +kernel
theorem dX4_limits_9 : decode cX4_limits 9 = .ok (.ifnull 22, 3) := by decide +kernel
theorem dX4_limits_12 : decode cX4_limits 12 = .ok (.dload_n 2, 1) := by decide +kernel
theorem dX4_limits_13 : decode cX4_limits 13 = .ok (.dload 4, 2) := by decide +kernel
theorem dX4_limits_15 : decode cX4_limits 15 = .ok (.sipush 10000, 3) := by decide +kernel
theorem dX4_limits_18 : decode cX4_limits 18 = .ok (.invokestatic 36, 3) := by decide +kernel
theorem dX4_limits_21 : decode cX4_limits 21 = .ok (.ifCond .eq 10, 3) := by decide +kernel
theorem dX4_limits_24 : decode cX4_limits 24 = .ok (.dload_n 2, 1) := by decide +kernel
theorem dX4_limits_25 : decode cX4_limits 25 = .ok (.dload 4, 2) := by decide +kernel
theorem dX4_limits_27 : decode cX4_limits 27 = .ok (.dcmp .l, 1) := by decide +kernel
theorem dX4_limits_28 : decode cX4_limits 28 = .ok (.ifCond .ne 5, 3) := by decide +kernel
theorem dX4_limits_31 : decode cX4_limits 31 = .ok (.iconst 0, 1) := by decide +kernel
theorem dX4_limits_32 : decode cX4_limits 32 = .ok (.ireturn, 1) := by decide +kernel
theorem dX4_limits_33 : decode cX4_limits 33 = .ok (.dload 6, 2) := by decide +kernel
theorem dX4_limits_35 : decode cX4_limits 35 = .ok (.dconst 0, 1) := by decide +kernel
theorem dX4_limits_36 : decode cX4_limits 36 = .ok (.dcmp .g, 1) := by decide +kernel
theorem dX4_limits_37 : decode cX4_limits 37 = .ok (.ifCond .le 15, 3) := by decide +kernel
theorem dX4_limits_40 : decode cX4_limits 40 = .ok (.dload 6, 2) := by decide +kernel
theorem dX4_limits_42 : decode cX4_limits 42 = .ok (.dconst 0, 1) := by decide +kernel
theorem dX4_limits_43 : decode cX4_limits 43 = .ok (.ldc2_w 40, 3) := by decide +kernel
theorem dX4_limits_46 : decode cX4_limits 46 = .ok (.invokestatic 42, 3) := by decide +kernel
theorem dX4_limits_49 : decode cX4_limits 49 = .ok (.ifCond .ne 5, 3) := by decide +kernel
theorem dX4_limits_52 : decode cX4_limits 52 = .ok (.iconst 0, 1) := by decide +kernel
theorem dX4_limits_53 : decode cX4_limits 53 = .ok (.ireturn, 1) := by decide +kernel
theorem dX4_limits_54 : decode cX4_limits 54 = .ok (.aload 8, 2) := by decide +kernel
theorem dX4_limits_56 : decode cX4_limits 56 = .ok (.getfield 46, 3) := by decide +kernel
theorem dX4_limits_59 : decode cX4_limits 59 = .ok (.dload_n 2, 1) := by decide +kernel
theorem dX4_limits_60 : decode cX4_limits 60 = .ok (.dload 4, 2) := by decide +kernel
theorem dX4_limits_62 : decode cX4_limits 62 = .ok (.invokevirtual 50, 3) := by decide +kernel
theorem dX4_limits_65 : decode cX4_limits 65 = .ok (.aload 8, 2) := by decide +kernel
theorem dX4_limits_67 : decode cX4_limits 67 = .ok (.dload 6, 2) := by decide +kernel
theorem dX4_limits_69 : decode cX4_limits 69 = .ok (.putfield 56, 3) := by decide +kernel
theorem dX4_limits_72 : decode cX4_limits 72 = .ok (.iconst 1, 1) := by decide +kernel
