abbrev b_F_init : ByteArray := prog_4_method_1_code
abbrev y_F_init : MethodName := ⟨"OldBeams$Frame", "<init>", "()V"⟩
theorem d_F_init_0 : decode b_F_init 0 = .ok (.aload_n 0, 1) := by decide +kernel
theorem d_F_init_1 : decode b_F_init 1 = .ok (.invokespecial 3, 3) := by decide +kernel
theorem d_F_init_4 : decode b_F_init 4 = .ok (.aload_n 0, 1) := by decide +kernel
theorem d_F_init_5 : decode b_F_init 5 = .ok (.iconst 4, 1) := by decide +kernel
theorem d_F_init_6 : decode b_F_init 6 = .ok (.iconst 3, 1) := by decide +kernel
theorem d_F_init_7 : decode b_F_init 7 = .ok (.multianewarray 9 2, 4) := by decide +kernel
theorem d_F_init_11 : decode b_F_init 11 = .ok (.putfield 11, 3) := by decide +kernel
theorem d_F_init_14 : decode b_F_init 14 = .ok (.aload_n 0, 1) := by decide +kernel
theorem d_F_init_15 : decode b_F_init 15 = .ok (.bipush 12, 2) := by decide +kernel
theorem d_F_init_17 : decode b_F_init 17 = .ok (.anewarray 16, 3) := by decide +kernel
theorem d_F_init_20 : decode b_F_init 20 = .ok (.putfield 18, 3) := by decide +kernel
theorem d_F_init_23 : decode b_F_init 23 = .ok (.aload_n 0, 1) := by decide +kernel
theorem d_F_init_24 : decode b_F_init 24 = .ok (.bipush 40, 2) := by decide +kernel
theorem d_F_init_26 : decode b_F_init 26 = .ok (.newarray .int, 2) := by decide +kernel
theorem d_F_init_28 : decode b_F_init 28 = .ok (.putfield 22, 3) := by decide +kernel
theorem d_F_init_31 : decode b_F_init 31 = .ok (.aload_n 0, 1) := by decide +kernel
theorem d_F_init_32 : decode b_F_init 32 = .ok (.bipush 40, 2) := by decide +kernel
theorem d_F_init_34 : decode b_F_init 34 = .ok (.newarray .int, 2) := by decide +kernel
theorem d_F_init_36 : decode b_F_init 36 = .ok (.putfield 26, 3) := by decide +kernel
theorem d_F_init_39 : decode b_F_init 39 = .ok (.aload_n 0, 1) := by decide +kernel
theorem d_F_init_40 : decode b_F_init 40 = .ok (.bipush 40, 2) := by decide +kernel
theorem d_F_init_42 : decode b_F_init 42 = .ok (.newarray .int, 2) := by decide +kernel
theorem d_F_init_44 : decode b_F_init 44 = .ok (.putfield 29, 3) := by decide +kernel
theorem d_F_init_47 : decode b_F_init 47 = .ok (.aload_n 0, 1) := by decide +kernel
theorem d_F_init_48 : decode b_F_init 48 = .ok (.bipush 40, 2) := by decide +kernel
theorem d_F_init_50 : decode b_F_init 50 = .ok (.newarray .boolean, 2) := by decide +kernel
theorem d_F_init_52 : decode b_F_init 52 = .ok (.putfield 32, 3) := by decide +kernel
theorem d_F_init_55 : decode b_F_init 55 = .ok (.aload_n 0, 1) := by decide +kernel
theorem d_F_init_56 : decode b_F_init 56 = .ok (.bipush 8, 2) := by decide +kernel
theorem d_F_init_58 : decode b_F_init 58 = .ok (.newarray .int, 2) := by decide +kernel
theorem d_F_init_60 : decode b_F_init 60 = .ok (.putfield 36, 3) := by decide +kernel
theorem d_F_init_63 : decode b_F_init 63 = .ok (.aload_n 0, 1) := by decide +kernel
theorem d_F_init_64 : decode b_F_init 64 = .ok (.bipush 8, 2) := by decide +kernel
theorem d_F_init_66 : decode b_F_init 66 = .ok (.newarray .int, 2) := by decide +kernel
theorem d_F_init_68 : decode b_F_init 68 = .ok (.putfield 39, 3) := by decide +kernel
theorem d_F_init_71 : decode b_F_init 71 = .ok (.aload_n 0, 1) := by decide +kernel
theorem d_F_init_72 : decode b_F_init 72 = .ok (.bipush 8, 2) := by decide +kernel
theorem d_F_init_74 : decode b_F_init 74 = .ok (.newarray .int, 2) := by decide +kernel
theorem d_F_init_76 : decode b_F_init 76 = .ok (.putfield 42, 3) := by decide +kernel
theorem d_F_init_79 : decode b_F_init 79 = .ok (.iconst 0, 1) := by decide +kernel
theorem d_F_init_80 : decode b_F_init 80 = .ok (.istore_n 1, 1) := by decide +kernel
theorem d_F_init_81 : decode b_F_init 81 = .ok (.iload_n 1, 1) := by decide +kernel
theorem d_F_init_82 : decode b_F_init 82 = .ok (.iconst 4, 1) := by decide +kernel
theorem d_F_init_83 : decode b_F_init 83 = .ok (.if_icmp .ge 28, 3) := by decide +kernel
theorem d_F_init_86 : decode b_F_init 86 = .ok (.aload_n 0, 1) := by decide +kernel
theorem d_F_init_87 : decode b_F_init 87 = .ok (.getfield 11, 3) := by decide +kernel
theorem d_F_init_90 : decode b_F_init 90 = .ok (.iload_n 1, 1) := by decide +kernel
theorem d_F_init_91 : decode b_F_init 91 = .ok (.aaload, 1) := by decide +kernel
theorem d_F_init_92 : decode b_F_init 92 = .ok (.iconst 0, 1) := by decide +kernel
theorem d_F_init_93 : decode b_F_init 93 = .ok (.bipush 100, 2) := by decide +kernel
theorem d_F_init_95 : decode b_F_init 95 = .ok (.iastore, 1) := by decide +kernel
theorem d_F_init_96 : decode b_F_init 96 = .ok (.aload_n 0, 1) := by decide +kernel
theorem d_F_init_97 : decode b_F_init 97 = .ok (.getfield 11, 3) := by decide +kernel
theorem d_F_init_100 : decode b_F_init 100 = .ok (.iload_n 1, 1) := by decide +kernel
theorem d_F_init_101 : decode b_F_init 101 = .ok (.aaload, 1) := by decide +kernel
theorem d_F_init_102 : decode b_F_init 102 = .ok (.iconst 2, 1) := by decide +kernel
theorem d_F_init_103 : decode b_F_init 103 = .ok (.iconst 1, 1) := by decide +kernel
theorem d_F_init_104 : decode b_F_init 104 = .ok (.iastore, 1) := by decide +kernel
theorem d_F_init_105 : decode b_F_init 105 = .ok (.iinc 1 1, 3) := by decide +kernel
theorem d_F_init_108 : decode b_F_init 108 = .ok (.goto (-27), 3) := by decide +kernel
theorem d_F_init_111 : decode b_F_init 111 = .ok (.iconst 0, 1) := by decide +kernel
theorem d_F_init_112 : decode b_F_init 112 = .ok (.istore_n 1, 1) := by decide +kernel
theorem d_F_init_113 : decode b_F_init 113 = .ok (.iload_n 1, 1) := by decide +kernel
theorem d_F_init_114 : decode b_F_init 114 = .ok (.bipush 12, 2) := by decide +kernel
theorem d_F_init_116 : decode b_F_init 116 = .ok (.if_icmp .ge 22, 3) := by decide +kernel
theorem d_F_init_119 : decode b_F_init 119 = .ok (.aload_n 0, 1) := by decide +kernel
theorem d_F_init_120 : decode b_F_init 120 = .ok (.getfield 18, 3) := by decide +kernel
theorem d_F_init_123 : decode b_F_init 123 = .ok (.iload_n 1, 1) := by decide +kernel
theorem d_F_init_124 : decode b_F_init 124 = .ok (.new 16, 3) := by decide +kernel
theorem d_F_init_127 : decode b_F_init 127 = .ok (.dup, 1) := by decide +kernel
theorem d_F_init_128 : decode b_F_init 128 = .ok (.invokespecial 45, 3) := by decide +kernel
theorem d_F_init_131 : decode b_F_init 131 = .ok (.aastore, 1) := by decide +kernel
theorem d_F_init_132 : decode b_F_init 132 = .ok (.iinc 1 1, 3) := by decide +kernel
theorem d_F_init_135 : decode b_F_init 135 = .ok (.goto (-22), 3) := by decide +kernel
theorem d_F_init_138 : decode b_F_init 138 = .ok (.return_, 1) := by decide +kernel
abbrev b_B_init : ByteArray := prog_2_method_1_code
abbrev y_B_init : MethodName := ⟨"OldBeams$Beam", "<init>", "()V"⟩
theorem d_B_init_0 : decode b_B_init 0 = .ok (.aload_n 0, 1) := by decide +kernel
theorem d_B_init_1 : decode b_B_init 1 = .ok (.invokespecial 3, 3) := by decide +kernel
theorem d_B_init_4 : decode b_B_init 4 = .ok (.aload_n 0, 1) := by decide +kernel
theorem d_B_init_5 : decode b_B_init 5 = .ok (.iconst 2, 1) := by decide +kernel
theorem d_B_init_6 : decode b_B_init 6 = .ok (.newarray .int, 2) := by decide +kernel
theorem d_B_init_8 : decode b_B_init 8 = .ok (.putfield 9, 3) := by decide +kernel
theorem d_B_init_11 : decode b_B_init 11 = .ok (.aload_n 0, 1) := by decide +kernel
theorem d_B_init_12 : decode b_B_init 12 = .ok (.iconst 2, 1) := by decide +kernel
theorem d_B_init_13 : decode b_B_init 13 = .ok (.newarray .int, 2) := by decide +kernel
theorem d_B_init_15 : decode b_B_init 15 = .ok (.putfield 15, 3) := by decide +kernel
theorem d_B_init_18 : decode b_B_init 18 = .ok (.aload_n 0, 1) := by decide +kernel
theorem d_B_init_19 : decode b_B_init 19 = .ok (.iconst 2, 1) := by decide +kernel
theorem d_B_init_20 : decode b_B_init 20 = .ok (.newarray .int, 2) := by decide +kernel
theorem d_B_init_22 : decode b_B_init 22 = .ok (.putfield 18, 3) := by decide +kernel
theorem d_B_init_25 : decode b_B_init 25 = .ok (.aload_n 0, 1) := by decide +kernel
theorem d_B_init_26 : decode b_B_init 26 = .ok (.bipush 61, 2) := by decide +kernel
theorem d_B_init_28 : decode b_B_init 28 = .ok (.newarray .long, 2) := by decide +kernel
theorem d_B_init_30 : decode b_B_init 30 = .ok (.putfield 21, 3) := by decide +kernel
theorem d_B_init_33 : decode b_B_init 33 = .ok (.aload_n 0, 1) := by decide +kernel
theorem d_B_init_34 : decode b_B_init 34 = .ok (.bipush 61, 2) := by decide +kernel
theorem d_B_init_36 : decode b_B_init 36 = .ok (.newarray .long, 2) := by decide +kernel
theorem d_B_init_38 : decode b_B_init 38 = .ok (.putfield 25, 3) := by decide +kernel
theorem d_B_init_41 : decode b_B_init 41 = .ok (.aload_n 0, 1) := by decide +kernel
theorem d_B_init_42 : decode b_B_init 42 = .ok (.iconst 2, 1) := by decide +kernel
theorem d_B_init_43 : decode b_B_init 43 = .ok (.newarray .long, 2) := by decide +kernel
theorem d_B_init_45 : decode b_B_init 45 = .ok (.putfield 28, 3) := by decide +kernel
theorem d_B_init_48 : decode b_B_init 48 = .ok (.return_, 1) := by decide +kernel
abbrev b_K_init : ByteArray := prog_5_method_1_code
abbrev y_K_init : MethodName := ⟨"OldBeams$Looks", "<init>", "()V"⟩
theorem d_K_init_0 : decode b_K_init 0 = .ok (.aload_n 0, 1) := by decide +kernel
theorem d_K_init_1 : decode b_K_init 1 = .ok (.invokespecial 3, 3) := by decide +kernel
theorem d_K_init_4 : decode b_K_init 4 = .ok (.aload_n 0, 1) := by decide +kernel
theorem d_K_init_5 : decode b_K_init 5 = .ok (.bipush 12, 2) := by decide +kernel
theorem d_K_init_7 : decode b_K_init 7 = .ok (.bipush 11, 2) := by decide +kernel
theorem d_K_init_9 : decode b_K_init 9 = .ok (.multianewarray 9 2, 4) := by decide +kernel
theorem d_K_init_13 : decode b_K_init 13 = .ok (.putfield 11, 3) := by decide +kernel
theorem d_K_init_16 : decode b_K_init 16 = .ok (.aload_n 0, 1) := by decide +kernel
theorem d_K_init_17 : decode b_K_init 17 = .ok (.iconst 4, 1) := by decide +kernel
theorem d_K_init_18 : decode b_K_init 18 = .ok (.bipush 11, 2) := by decide +kernel
theorem d_K_init_20 : decode b_K_init 20 = .ok (.multianewarray 9 2, 4) := by decide +kernel
theorem d_K_init_24 : decode b_K_init 24 = .ok (.putfield 16, 3) := by decide +kernel
theorem d_K_init_27 : decode b_K_init 27 = .ok (.aload_n 0, 1) := by decide +kernel
theorem d_K_init_28 : decode b_K_init 28 = .ok (.bipush 60, 2) := by decide +kernel
theorem d_K_init_30 : decode b_K_init 30 = .ok (.newarray .int, 2) := by decide +kernel
theorem d_K_init_32 : decode b_K_init 32 = .ok (.putfield 19, 3) := by decide +kernel
theorem d_K_init_35 : decode b_K_init 35 = .ok (.aload_n 0, 1) := by decide +kernel
theorem d_K_init_36 : decode b_K_init 36 = .ok (.bipush 60, 2) := by decide +kernel
theorem d_K_init_38 : decode b_K_init 38 = .ok (.newarray .int, 2) := by decide +kernel
theorem d_K_init_40 : decode b_K_init 40 = .ok (.putfield 23, 3) := by decide +kernel
theorem d_K_init_43 : decode b_K_init 43 = .ok (.aload_n 0, 1) := by decide +kernel
theorem d_K_init_44 : decode b_K_init 44 = .ok (.bipush 60, 2) := by decide +kernel
theorem d_K_init_46 : decode b_K_init 46 = .ok (.newarray .int, 2) := by decide +kernel
theorem d_K_init_48 : decode b_K_init 48 = .ok (.putfield 26, 3) := by decide +kernel
theorem d_K_init_51 : decode b_K_init 51 = .ok (.aload_n 0, 1) := by decide +kernel
theorem d_K_init_52 : decode b_K_init 52 = .ok (.bipush 60, 2) := by decide +kernel
theorem d_K_init_54 : decode b_K_init 54 = .ok (.newarray .int, 2) := by decide +kernel
theorem d_K_init_56 : decode b_K_init 56 = .ok (.putfield 29, 3) := by decide +kernel
theorem d_K_init_59 : decode b_K_init 59 = .ok (.aload_n 0, 1) := by decide +kernel
theorem d_K_init_60 : decode b_K_init 60 = .ok (.bipush 11, 2) := by decide +kernel
theorem d_K_init_62 : decode b_K_init 62 = .ok (.newarray .long, 2) := by decide +kernel
theorem d_K_init_64 : decode b_K_init 64 = .ok (.putfield 32, 3) := by decide +kernel
theorem d_K_init_67 : decode b_K_init 67 = .ok (.aload_n 0, 1) := by decide +kernel
theorem d_K_init_68 : decode b_K_init 68 = .ok (.bipush 11, 2) := by decide +kernel
theorem d_K_init_70 : decode b_K_init 70 = .ok (.newarray .long, 2) := by decide +kernel
theorem d_K_init_72 : decode b_K_init 72 = .ok (.putfield 36, 3) := by decide +kernel
theorem d_K_init_75 : decode b_K_init 75 = .ok (.iconst 0, 1) := by decide +kernel
theorem d_K_init_76 : decode b_K_init 76 = .ok (.istore_n 1, 1) := by decide +kernel
theorem d_K_init_77 : decode b_K_init 77 = .ok (.iload_n 1, 1) := by decide +kernel
theorem d_K_init_78 : decode b_K_init 78 = .ok (.bipush 12, 2) := by decide +kernel
theorem d_K_init_80 : decode b_K_init 80 = .ok (.if_icmp .ge 32, 3) := by decide +kernel
theorem d_K_init_83 : decode b_K_init 83 = .ok (.iconst 0, 1) := by decide +kernel
theorem d_K_init_84 : decode b_K_init 84 = .ok (.istore_n 2, 1) := by decide +kernel
theorem d_K_init_85 : decode b_K_init 85 = .ok (.iload_n 2, 1) := by decide +kernel
theorem d_K_init_86 : decode b_K_init 86 = .ok (.bipush 11, 2) := by decide +kernel
theorem d_K_init_88 : decode b_K_init 88 = .ok (.if_icmp .ge 18, 3) := by decide +kernel
theorem d_K_init_91 : decode b_K_init 91 = .ok (.aload_n 0, 1) := by decide +kernel
theorem d_K_init_92 : decode b_K_init 92 = .ok (.getfield 11, 3) := by decide +kernel
theorem d_K_init_95 : decode b_K_init 95 = .ok (.iload_n 1, 1) := by decide +kernel
theorem d_K_init_96 : decode b_K_init 96 = .ok (.aaload, 1) := by decide +kernel
theorem d_K_init_97 : decode b_K_init 97 = .ok (.iload_n 2, 1) := by decide +kernel
theorem d_K_init_98 : decode b_K_init 98 = .ok (.iconst 1, 1) := by decide +kernel
theorem d_K_init_99 : decode b_K_init 99 = .ok (.iastore, 1) := by decide +kernel
theorem d_K_init_100 : decode b_K_init 100 = .ok (.iinc 2 1, 3) := by decide +kernel
theorem d_K_init_103 : decode b_K_init 103 = .ok (.goto (-18), 3) := by decide +kernel
theorem d_K_init_106 : decode b_K_init 106 = .ok (.iinc 1 1, 3) := by decide +kernel
theorem d_K_init_109 : decode b_K_init 109 = .ok (.goto (-32), 3) := by decide +kernel
theorem d_K_init_112 : decode b_K_init 112 = .ok (.return_, 1) := by decide +kernel
abbrev b_Q_init : ByteArray := prog_3_method_1_code
abbrev y_Q_init : MethodName := ⟨"OldBeams$Fraction", "<init>", "()V"⟩
theorem d_Q_init_0 : decode b_Q_init 0 = .ok (.aload_n 0, 1) := by decide +kernel
theorem d_Q_init_1 : decode b_Q_init 1 = .ok (.invokespecial 1, 3) := by decide +kernel
theorem d_Q_init_4 : decode b_Q_init 4 = .ok (.aload_n 0, 1) := by decide +kernel
theorem d_Q_init_5 : decode b_Q_init 5 = .ok (.lconst 0, 1) := by decide +kernel
theorem d_Q_init_6 : decode b_Q_init 6 = .ok (.putfield 7, 3) := by decide +kernel
theorem d_Q_init_9 : decode b_Q_init 9 = .ok (.aload_n 0, 1) := by decide +kernel
theorem d_Q_init_10 : decode b_Q_init 10 = .ok (.lconst 1, 1) := by decide +kernel
theorem d_Q_init_11 : decode b_Q_init 11 = .ok (.putfield 13, 3) := by decide +kernel
theorem d_Q_init_14 : decode b_Q_init 14 = .ok (.return_, 1) := by decide +kernel
abbrev b_F_addBeam : ByteArray := prog_4_method_4_code
abbrev y_F_addBeam : MethodName := ⟨"OldBeams$Frame", "addBeam", "(IIII)I"⟩
theorem d_F_addBeam_0 : decode b_F_addBeam 0 = .ok (.aload_n 0, 1) := by decide +kernel
theorem d_F_addBeam_1 : decode b_F_addBeam 1 = .ok (.getfield 46, 3) := by decide +kernel
theorem d_F_addBeam_4 : decode b_F_addBeam 4 = .ok (.istore 5, 2) := by decide +kernel
theorem d_F_addBeam_6 : decode b_F_addBeam 6 = .ok (.aload_n 0, 1) := by decide +kernel
theorem d_F_addBeam_7 : decode b_F_addBeam 7 = .ok (.getfield 18, 3) := by decide +kernel
theorem d_F_addBeam_10 : decode b_F_addBeam 10 = .ok (.iload 5, 2) := by decide +kernel
theorem d_F_addBeam_12 : decode b_F_addBeam 12 = .ok (.aaload, 1) := by decide +kernel
theorem d_F_addBeam_13 : decode b_F_addBeam 13 = .ok (.iload_n 1, 1) := by decide +kernel
theorem d_F_addBeam_14 : decode b_F_addBeam 14 = .ok (.iload_n 2, 1) := by decide +kernel
theorem d_F_addBeam_15 : decode b_F_addBeam 15 = .ok (.iload_n 3, 1) := by decide +kernel
theorem d_F_addBeam_16 : decode b_F_addBeam 16 = .ok (.iload 4, 2) := by decide +kernel
theorem d_F_addBeam_18 : decode b_F_addBeam 18 = .ok (.invokevirtual 61, 3) := by decide +kernel
theorem d_F_addBeam_21 : decode b_F_addBeam 21 = .ok (.aload_n 0, 1) := by decide +kernel
theorem d_F_addBeam_22 : decode b_F_addBeam 22 = .ok (.iload 5, 2) := by decide +kernel
theorem d_F_addBeam_24 : decode b_F_addBeam 24 = .ok (.iconst 1, 1) := by decide +kernel
theorem d_F_addBeam_25 : decode b_F_addBeam 25 = .ok (.iadd, 1) := by decide +kernel
theorem d_F_addBeam_26 : decode b_F_addBeam 26 = .ok (.putfield 46, 3) := by decide +kernel
theorem d_F_addBeam_29 : decode b_F_addBeam 29 = .ok (.iload 5, 2) := by decide +kernel
theorem d_F_addBeam_31 : decode b_F_addBeam 31 = .ok (.ireturn, 1) := by decide +kernel
abbrev b_B_begin : ByteArray := prog_2_method_2_code
abbrev y_B_begin : MethodName := ⟨"OldBeams$Beam", "begin", "(IIII)V"⟩
theorem d_B_begin_0 : decode b_B_begin 0 = .ok (.aload_n 0, 1) := by decide +kernel
theorem d_B_begin_1 : decode b_B_begin 1 = .ok (.iload_n 1, 1) := by decide +kernel
theorem d_B_begin_2 : decode b_B_begin 2 = .ok (.putfield 31, 3) := by decide +kernel
theorem d_B_begin_5 : decode b_B_begin 5 = .ok (.aload_n 0, 1) := by decide +kernel
theorem d_B_begin_6 : decode b_B_begin 6 = .ok (.iload_n 2, 1) := by decide +kernel
theorem d_B_begin_7 : decode b_B_begin 7 = .ok (.putfield 35, 3) := by decide +kernel
theorem d_B_begin_10 : decode b_B_begin 10 = .ok (.aload_n 0, 1) := by decide +kernel
theorem d_B_begin_11 : decode b_B_begin 11 = .ok (.iload_n 3, 1) := by decide +kernel
theorem d_B_begin_12 : decode b_B_begin 12 = .ok (.putfield 38, 3) := by decide +kernel
theorem d_B_begin_15 : decode b_B_begin 15 = .ok (.aload_n 0, 1) := by decide +kernel
theorem d_B_begin_16 : decode b_B_begin 16 = .ok (.iload 4, 2) := by decide +kernel
theorem d_B_begin_18 : decode b_B_begin 18 = .ok (.putfield 41, 3) := by decide +kernel
theorem d_B_begin_21 : decode b_B_begin 21 = .ok (.aload_n 0, 1) := by decide +kernel
theorem d_B_begin_22 : decode b_B_begin 22 = .ok (.iconst 0, 1) := by decide +kernel
theorem d_B_begin_23 : decode b_B_begin 23 = .ok (.iconst 0, 1) := by decide +kernel
theorem d_B_begin_24 : decode b_B_begin 24 = .ok (.ldc 44, 2) := by decide +kernel
theorem d_B_begin_26 : decode b_B_begin 26 = .ok (.iconst 0, 1) := by decide +kernel
theorem d_B_begin_27 : decode b_B_begin 27 = .ok (.invokevirtual 45, 3) := by decide +kernel
theorem d_B_begin_30 : decode b_B_begin 30 = .ok (.aload_n 0, 1) := by decide +kernel
theorem d_B_begin_31 : decode b_B_begin 31 = .ok (.iconst 1, 1) := by decide +kernel
theorem d_B_begin_32 : decode b_B_begin 32 = .ok (.iload_n 2, 1) := by decide +kernel
theorem d_B_begin_33 : decode b_B_begin 33 = .ok (.ldc 44, 2) := by decide +kernel
theorem d_B_begin_35 : decode b_B_begin 35 = .ok (.iconst 0, 1) := by decide +kernel
theorem d_B_begin_36 : decode b_B_begin 36 = .ok (.invokevirtual 45, 3) := by decide +kernel
theorem d_B_begin_39 : decode b_B_begin 39 = .ok (.return_, 1) := by decide +kernel
abbrev b_B_putSeat : ByteArray := prog_2_method_4_code
abbrev y_B_putSeat : MethodName := ⟨"OldBeams$Beam", "putSeat", "(IIII)V"⟩
theorem d_B_putSeat_0 : decode b_B_putSeat 0 = .ok (.aload_n 0, 1) := by decide +kernel
theorem d_B_putSeat_1 : decode b_B_putSeat 1 = .ok (.getfield 9, 3) := by decide +kernel
theorem d_B_putSeat_4 : decode b_B_putSeat 4 = .ok (.iload_n 1, 1) := by decide +kernel
theorem d_B_putSeat_5 : decode b_B_putSeat 5 = .ok (.iload_n 2, 1) := by decide +kernel
theorem d_B_putSeat_6 : decode b_B_putSeat 6 = .ok (.iastore, 1) := by decide +kernel
theorem d_B_putSeat_7 : decode b_B_putSeat 7 = .ok (.aload_n 0, 1) := by decide +kernel
theorem d_B_putSeat_8 : decode b_B_putSeat 8 = .ok (.getfield 15, 3) := by decide +kernel
theorem d_B_putSeat_11 : decode b_B_putSeat 11 = .ok (.iload_n 1, 1) := by decide +kernel
theorem d_B_putSeat_12 : decode b_B_putSeat 12 = .ok (.iload_n 3, 1) := by decide +kernel
theorem d_B_putSeat_13 : decode b_B_putSeat 13 = .ok (.iastore, 1) := by decide +kernel
theorem d_B_putSeat_14 : decode b_B_putSeat 14 = .ok (.aload_n 0, 1) := by decide +kernel
theorem d_B_putSeat_15 : decode b_B_putSeat 15 = .ok (.getfield 18, 3) := by decide +kernel
theorem d_B_putSeat_18 : decode b_B_putSeat 18 = .ok (.iload_n 1, 1) := by decide +kernel
theorem d_B_putSeat_19 : decode b_B_putSeat 19 = .ok (.iload_n 3, 1) := by decide +kernel
theorem d_B_putSeat_20 : decode b_B_putSeat 20 = .ok (.ldc 44, 2) := by decide +kernel
theorem d_B_putSeat_22 : decode b_B_putSeat 22 = .ok (.if_icmp .ne 7, 3) := by decide +kernel
theorem d_B_putSeat_25 : decode b_B_putSeat 25 = .ok (.iconst 0, 1) := by decide +kernel
theorem d_B_putSeat_26 : decode b_B_putSeat 26 = .ok (.goto 5, 3) := by decide +kernel
theorem d_B_putSeat_29 : decode b_B_putSeat 29 = .ok (.iload 4, 2) := by decide +kernel
theorem d_B_putSeat_31 : decode b_B_putSeat 31 = .ok (.iastore, 1) := by decide +kernel
theorem d_B_putSeat_32 : decode b_B_putSeat 32 = .ok (.return_, 1) := by decide +kernel
abbrev b_F_hasBeam : ByteArray := prog_4_method_2_code
abbrev y_F_hasBeam : MethodName := ⟨"OldBeams$Frame", "hasBeam", "(I)Z"⟩
theorem d_F_hasBeam_0 : decode b_F_hasBeam 0 = .ok (.iload_n 1, 1) := by decide +kernel
theorem d_F_hasBeam_1 : decode b_F_hasBeam 1 = .ok (.iconst 0, 1) := by decide +kernel
theorem d_F_hasBeam_2 : decode b_F_hasBeam 2 = .ok (.aload_n 0, 1) := by decide +kernel
theorem d_F_hasBeam_3 : decode b_F_hasBeam 3 = .ok (.getfield 46, 3) := by decide +kernel
theorem d_F_hasBeam_6 : decode b_F_hasBeam 6 = .ok (.iconst 1, 1) := by decide +kernel
theorem d_F_hasBeam_7 : decode b_F_hasBeam 7 = .ok (.isub, 1) := by decide +kernel
theorem d_F_hasBeam_8 : decode b_F_hasBeam 8 = .ok (.invokestatic 50, 3) := by decide +kernel
theorem d_F_hasBeam_11 : decode b_F_hasBeam 11 = .ok (.ireturn, 1) := by decide +kernel
abbrev b_F_hasPlace : ByteArray := prog_4_method_3_code
abbrev y_F_hasPlace : MethodName := ⟨"OldBeams$Frame", "hasPlace", "(II)Z"⟩
theorem d_F_hasPlace_0 : decode b_F_hasPlace 0 = .ok (.aload_n 0, 1) := by decide +kernel
theorem d_F_hasPlace_1 : decode b_F_hasPlace 1 = .ok (.iload_n 1, 1) := by decide +kernel
theorem d_F_hasPlace_2 : decode b_F_hasPlace 2 = .ok (.invokevirtual 54, 3) := by decide +kernel
theorem d_F_hasPlace_5 : decode b_F_hasPlace 5 = .ok (.ifCond .eq 24, 3) := by decide +kernel
theorem d_F_hasPlace_8 : decode b_F_hasPlace 8 = .ok (.iload_n 2, 1) := by decide +kernel
theorem d_F_hasPlace_9 : decode b_F_hasPlace 9 = .ok (.iconst 0, 1) := by decide +kernel
theorem d_F_hasPlace_10 : decode b_F_hasPlace 10 = .ok (.aload_n 0, 1) := by decide +kernel
theorem d_F_hasPlace_11 : decode b_F_hasPlace 11 = .ok (.getfield 18, 3) := by decide +kernel
theorem d_F_hasPlace_14 : decode b_F_hasPlace 14 = .ok (.iload_n 1, 1) := by decide +kernel
theorem d_F_hasPlace_15 : decode b_F_hasPlace 15 = .ok (.aaload, 1) := by decide +kernel
theorem d_F_hasPlace_16 : decode b_F_hasPlace 16 = .ok (.getfield 58, 3) := by decide +kernel
theorem d_F_hasPlace_19 : decode b_F_hasPlace 19 = .ok (.invokestatic 50, 3) := by decide +kernel
theorem d_F_hasPlace_22 : decode b_F_hasPlace 22 = .ok (.ifCond .eq 7, 3) := by decide +kernel
theorem d_F_hasPlace_25 : decode b_F_hasPlace 25 = .ok (.iconst 1, 1) := by decide +kernel
theorem d_F_hasPlace_26 : decode b_F_hasPlace 26 = .ok (.goto 4, 3) := by decide +kernel
theorem d_F_hasPlace_29 : decode b_F_hasPlace 29 = .ok (.iconst 0, 1) := by decide +kernel
theorem d_F_hasPlace_30 : decode b_F_hasPlace 30 = .ok (.ireturn, 1) := by decide +kernel
abbrev b_B_mayPutSeat : ByteArray := prog_2_method_3_code
abbrev y_B_mayPutSeat : MethodName := ⟨"OldBeams$Beam", "mayPutSeat", "(II)Z"⟩
theorem d_B_mayPutSeat_0 : decode b_B_mayPutSeat 0 = .ok (.iload_n 1, 1) := by decide +kernel
theorem d_B_mayPutSeat_1 : decode b_B_mayPutSeat 1 = .ok (.ifCond .ne 7, 3) := by decide +kernel
theorem d_B_mayPutSeat_4 : decode b_B_mayPutSeat 4 = .ok (.iload_n 2, 1) := by decide +kernel
theorem d_B_mayPutSeat_5 : decode b_B_mayPutSeat 5 = .ok (.goto 9, 3) := by decide +kernel
theorem d_B_mayPutSeat_8 : decode b_B_mayPutSeat 8 = .ok (.aload_n 0, 1) := by decide +kernel
theorem d_B_mayPutSeat_9 : decode b_B_mayPutSeat 9 = .ok (.getfield 9, 3) := by decide +kernel
theorem d_B_mayPutSeat_12 : decode b_B_mayPutSeat 12 = .ok (.iconst 0, 1) := by decide +kernel
theorem d_B_mayPutSeat_13 : decode b_B_mayPutSeat 13 = .ok (.iaload, 1) := by decide +kernel
theorem d_B_mayPutSeat_14 : decode b_B_mayPutSeat 14 = .ok (.istore_n 3, 1) := by decide +kernel
theorem d_B_mayPutSeat_15 : decode b_B_mayPutSeat 15 = .ok (.iload_n 1, 1) := by decide +kernel
theorem d_B_mayPutSeat_16 : decode b_B_mayPutSeat 16 = .ok (.iconst 1, 1) := by decide +kernel
theorem d_B_mayPutSeat_17 : decode b_B_mayPutSeat 17 = .ok (.if_icmp .ne 7, 3) := by decide +kernel
theorem d_B_mayPutSeat_20 : decode b_B_mayPutSeat 20 = .ok (.iload_n 2, 1) := by decide +kernel
theorem d_B_mayPutSeat_21 : decode b_B_mayPutSeat 21 = .ok (.goto 9, 3) := by decide +kernel
theorem d_B_mayPutSeat_24 : decode b_B_mayPutSeat 24 = .ok (.aload_n 0, 1) := by decide +kernel
theorem d_B_mayPutSeat_25 : decode b_B_mayPutSeat 25 = .ok (.getfield 9, 3) := by decide +kernel
theorem d_B_mayPutSeat_28 : decode b_B_mayPutSeat 28 = .ok (.iconst 1, 1) := by decide +kernel
theorem d_B_mayPutSeat_29 : decode b_B_mayPutSeat 29 = .ok (.iaload, 1) := by decide +kernel
theorem d_B_mayPutSeat_30 : decode b_B_mayPutSeat 30 = .ok (.istore 4, 2) := by decide +kernel
theorem d_B_mayPutSeat_32 : decode b_B_mayPutSeat 32 = .ok (.iconst 3, 1) := by decide +kernel
theorem d_B_mayPutSeat_33 : decode b_B_mayPutSeat 33 = .ok (.iload 4, 2) := by decide +kernel
theorem d_B_mayPutSeat_35 : decode b_B_mayPutSeat 35 = .ok (.iload_n 3, 1) := by decide +kernel
theorem d_B_mayPutSeat_36 : decode b_B_mayPutSeat 36 = .ok (.isub, 1) := by decide +kernel
theorem d_B_mayPutSeat_37 : decode b_B_mayPutSeat 37 = .ok (.imul, 1) := by decide +kernel
theorem d_B_mayPutSeat_38 : decode b_B_mayPutSeat 38 = .ok (.aload_n 0, 1) := by decide +kernel
theorem d_B_mayPutSeat_39 : decode b_B_mayPutSeat 39 = .ok (.getfield 35, 3) := by decide +kernel
theorem d_B_mayPutSeat_42 : decode b_B_mayPutSeat 42 = .ok (.if_icmp .lt 7, 3) := by decide +kernel
theorem d_B_mayPutSeat_45 : decode b_B_mayPutSeat 45 = .ok (.iconst 1, 1) := by decide +kernel
theorem d_B_mayPutSeat_46 : decode b_B_mayPutSeat 46 = .ok (.goto 4, 3) := by decide +kernel
theorem d_B_mayPutSeat_49 : decode b_B_mayPutSeat 49 = .ok (.iconst 0, 1) := by decide +kernel
theorem d_B_mayPutSeat_50 : decode b_B_mayPutSeat 50 = .ok (.ireturn, 1) := by decide +kernel
abbrev b_F_wholeStrength : ByteArray := prog_4_method_17_code
abbrev y_F_wholeStrength : MethodName := ⟨"OldBeams$Frame", "wholeStrength", "(I)I"⟩
theorem d_F_wholeStrength_0 : decode b_F_wholeStrength 0 = .ok (.aload_n 0, 1) := by decide +kernel
theorem d_F_wholeStrength_1 : decode b_F_wholeStrength 1 = .ok (.getfield 18, 3) := by decide +kernel
theorem d_F_wholeStrength_4 : decode b_F_wholeStrength 4 = .ok (.iload_n 1, 1) := by decide +kernel
theorem d_F_wholeStrength_5 : decode b_F_wholeStrength 5 = .ok (.aaload, 1) := by decide +kernel
theorem d_F_wholeStrength_6 : decode b_F_wholeStrength 6 = .ok (.astore_n 2, 1) := by decide +kernel
theorem d_F_wholeStrength_7 : decode b_F_wholeStrength 7 = .ok (.aload_n 0, 1) := by decide +kernel
theorem d_F_wholeStrength_8 : decode b_F_wholeStrength 8 = .ok (.getfield 11, 3) := by decide +kernel
theorem d_F_wholeStrength_11 : decode b_F_wholeStrength 11 = .ok (.aload_n 2, 1) := by decide +kernel
theorem d_F_wholeStrength_12 : decode b_F_wholeStrength 12 = .ok (.getfield 129, 3) := by decide +kernel
theorem d_F_wholeStrength_15 : decode b_F_wholeStrength 15 = .ok (.aaload, 1) := by decide +kernel
theorem d_F_wholeStrength_16 : decode b_F_wholeStrength 16 = .ok (.iconst 0, 1) := by decide +kernel
theorem d_F_wholeStrength_17 : decode b_F_wholeStrength 17 = .ok (.iaload, 1) := by decide +kernel
theorem d_F_wholeStrength_18 : decode b_F_wholeStrength 18 = .ok (.aload_n 2, 1) := by decide +kernel
theorem d_F_wholeStrength_19 : decode b_F_wholeStrength 19 = .ok (.getfield 132, 3) := by decide +kernel
theorem d_F_wholeStrength_22 : decode b_F_wholeStrength 22 = .ok (.imul, 1) := by decide +kernel
theorem d_F_wholeStrength_23 : decode b_F_wholeStrength 23 = .ok (.aload_n 2, 1) := by decide +kernel
theorem d_F_wholeStrength_24 : decode b_F_wholeStrength 24 = .ok (.getfield 135, 3) := by decide +kernel
theorem d_F_wholeStrength_27 : decode b_F_wholeStrength 27 = .ok (.imul, 1) := by decide +kernel
theorem d_F_wholeStrength_28 : decode b_F_wholeStrength 28 = .ok (.aload_n 2, 1) := by decide +kernel
theorem d_F_wholeStrength_29 : decode b_F_wholeStrength 29 = .ok (.getfield 135, 3) := by decide +kernel
theorem d_F_wholeStrength_32 : decode b_F_wholeStrength 32 = .ok (.imul, 1) := by decide +kernel
theorem d_F_wholeStrength_33 : decode b_F_wholeStrength 33 = .ok (.bipush 100, 2) := by decide +kernel
theorem d_F_wholeStrength_35 : decode b_F_wholeStrength 35 = .ok (.idiv, 1) := by decide +kernel
theorem d_F_wholeStrength_36 : decode b_F_wholeStrength 36 = .ok (.ireturn, 1) := by decide +kernel
abbrev b_F_isDown : ByteArray := prog_4_method_12_code
abbrev y_F_isDown : MethodName := ⟨"OldBeams$Frame", "isDown", "(I)Z"⟩
theorem d_F_isDown_0 : decode b_F_isDown 0 = .ok (.aload_n 0, 1) := by decide +kernel
theorem d_F_isDown_1 : decode b_F_isDown 1 = .ok (.aload_n 0, 1) := by decide +kernel
theorem d_F_isDown_2 : decode b_F_isDown 2 = .ok (.getfield 86, 3) := by decide +kernel
theorem d_F_isDown_5 : decode b_F_isDown 5 = .ok (.invokevirtual 89, 3) := by decide +kernel
theorem d_F_isDown_8 : decode b_F_isDown 8 = .ok (.iload_n 1, 1) := by decide +kernel
theorem d_F_isDown_9 : decode b_F_isDown 9 = .ok (.invokestatic 83, 3) := by decide +kernel
theorem d_F_isDown_12 : decode b_F_isDown 12 = .ok (.ireturn, 1) := by decide +kernel
abbrev b_F_downBy : ByteArray := prog_4_method_10_code
abbrev y_F_downBy : MethodName := ⟨"OldBeams$Frame", "downBy", "(I)I"⟩
theorem d_F_downBy_0 : decode b_F_downBy 0 = .ok (.iload_n 1, 1) := by decide +kernel
theorem d_F_downBy_1 : decode b_F_downBy 1 = .ok (.istore_n 2, 1) := by decide +kernel
theorem d_F_downBy_2 : decode b_F_downBy 2 = .ok (.iconst 0, 1) := by decide +kernel
theorem d_F_downBy_3 : decode b_F_downBy 3 = .ok (.istore_n 3, 1) := by decide +kernel
theorem d_F_downBy_4 : decode b_F_downBy 4 = .ok (.iload_n 3, 1) := by decide +kernel
theorem d_F_downBy_5 : decode b_F_downBy 5 = .ok (.aload_n 0, 1) := by decide +kernel
theorem d_F_downBy_6 : decode b_F_downBy 6 = .ok (.getfield 46, 3) := by decide +kernel
theorem d_F_downBy_9 : decode b_F_downBy 9 = .ok (.if_icmp .ge 51, 3) := by decide +kernel
theorem d_F_downBy_12 : decode b_F_downBy 12 = .ok (.aload_n 0, 1) := by decide +kernel
theorem d_F_downBy_13 : decode b_F_downBy 13 = .ok (.getfield 18, 3) := by decide +kernel
theorem d_F_downBy_16 : decode b_F_downBy 16 = .ok (.iload_n 3, 1) := by decide +kernel
theorem d_F_downBy_17 : decode b_F_downBy 17 = .ok (.aaload, 1) := by decide +kernel
theorem d_F_downBy_18 : decode b_F_downBy 18 = .ok (.astore 4, 2) := by decide +kernel
theorem d_F_downBy_20 : decode b_F_downBy 20 = .ok (.aload 4, 2) := by decide +kernel
theorem d_F_downBy_22 : decode b_F_downBy 22 = .ok (.getfield 75, 3) := by decide +kernel
theorem d_F_downBy_25 : decode b_F_downBy 25 = .ok (.iconst 0, 1) := by decide +kernel
theorem d_F_downBy_26 : decode b_F_downBy 26 = .ok (.iaload, 1) := by decide +kernel
theorem d_F_downBy_27 : decode b_F_downBy 27 = .ok (.iload_n 2, 1) := by decide +kernel
theorem d_F_downBy_28 : decode b_F_downBy 28 = .ok (.invokestatic 78, 3) := by decide +kernel
theorem d_F_downBy_31 : decode b_F_downBy 31 = .ok (.ifCond .ne 17, 3) := by decide +kernel
theorem d_F_downBy_34 : decode b_F_downBy 34 = .ok (.aload 4, 2) := by decide +kernel
theorem d_F_downBy_36 : decode b_F_downBy 36 = .ok (.getfield 75, 3) := by decide +kernel
theorem d_F_downBy_39 : decode b_F_downBy 39 = .ok (.iconst 1, 1) := by decide +kernel
theorem d_F_downBy_40 : decode b_F_downBy 40 = .ok (.iaload, 1) := by decide +kernel
theorem d_F_downBy_41 : decode b_F_downBy 41 = .ok (.iload_n 2, 1) := by decide +kernel
theorem d_F_downBy_42 : decode b_F_downBy 42 = .ok (.invokestatic 78, 3) := by decide +kernel
theorem d_F_downBy_45 : decode b_F_downBy 45 = .ok (.ifCond .eq 9, 3) := by decide +kernel
theorem d_F_downBy_48 : decode b_F_downBy 48 = .ok (.iload_n 2, 1) := by decide +kernel
theorem d_F_downBy_49 : decode b_F_downBy 49 = .ok (.iconst 1, 1) := by decide +kernel
theorem d_F_downBy_50 : decode b_F_downBy 50 = .ok (.iload_n 3, 1) := by decide +kernel
theorem d_F_downBy_51 : decode b_F_downBy 51 = .ok (.ishl, 1) := by decide +kernel
theorem d_F_downBy_52 : decode b_F_downBy 52 = .ok (.ior, 1) := by decide +kernel
theorem d_F_downBy_53 : decode b_F_downBy 53 = .ok (.istore_n 2, 1) := by decide +kernel
theorem d_F_downBy_54 : decode b_F_downBy 54 = .ok (.iinc 3 1, 3) := by decide +kernel
theorem d_F_downBy_57 : decode b_F_downBy 57 = .ok (.goto (-53), 3) := by decide +kernel
theorem d_F_downBy_60 : decode b_F_downBy 60 = .ok (.iload_n 2, 1) := by decide +kernel
theorem d_F_downBy_61 : decode b_F_downBy 61 = .ok (.ireturn, 1) := by decide +kernel
abbrev b_F_restsOn : ByteArray := prog_4_method_11_code
abbrev y_F_restsOn : MethodName := ⟨"OldBeams$Frame", "restsOn", "(II)Z"⟩
theorem d_F_restsOn_0 : decode b_F_restsOn 0 = .ok (.iload_n 0, 1) := by decide +kernel
theorem d_F_restsOn_1 : decode b_F_restsOn 1 = .ok (.ldc 82, 2) := by decide +kernel
theorem d_F_restsOn_3 : decode b_F_restsOn 3 = .ok (.if_icmp .eq 15, 3) := by decide +kernel
theorem d_F_restsOn_6 : decode b_F_restsOn 6 = .ok (.iload_n 1, 1) := by decide +kernel
theorem d_F_restsOn_7 : decode b_F_restsOn 7 = .ok (.iload_n 0, 1) := by decide +kernel
theorem d_F_restsOn_8 : decode b_F_restsOn 8 = .ok (.invokestatic 83, 3) := by decide +kernel
theorem d_F_restsOn_11 : decode b_F_restsOn 11 = .ok (.ifCond .eq 7, 3) := by decide +kernel
theorem d_F_restsOn_14 : decode b_F_restsOn 14 = .ok (.iconst 1, 1) := by decide +kernel
theorem d_F_restsOn_15 : decode b_F_restsOn 15 = .ok (.goto 4, 3) := by decide +kernel
theorem d_F_restsOn_18 : decode b_F_restsOn 18 = .ok (.iconst 0, 1) := by decide +kernel
theorem d_F_restsOn_19 : decode b_F_restsOn 19 = .ok (.ireturn, 1) := by decide +kernel
abbrev b_F_addLoad : ByteArray := prog_4_method_5_code
abbrev y_F_addLoad : MethodName := ⟨"OldBeams$Frame", "addLoad", "(III)I"⟩
theorem d_F_addLoad_0 : decode b_F_addLoad 0 = .ok (.aload_n 0, 1) := by decide +kernel
theorem d_F_addLoad_1 : decode b_F_addLoad 1 = .ok (.getfield 65, 3) := by decide +kernel
theorem d_F_addLoad_4 : decode b_F_addLoad 4 = .ok (.istore 4, 2) := by decide +kernel
theorem d_F_addLoad_6 : decode b_F_addLoad 6 = .ok (.aload_n 0, 1) := by decide +kernel
theorem d_F_addLoad_7 : decode b_F_addLoad 7 = .ok (.getfield 22, 3) := by decide +kernel
theorem d_F_addLoad_10 : decode b_F_addLoad 10 = .ok (.iload 4, 2) := by decide +kernel
theorem d_F_addLoad_12 : decode b_F_addLoad 12 = .ok (.iload_n 1, 1) := by decide +kernel
theorem d_F_addLoad_13 : decode b_F_addLoad 13 = .ok (.iastore, 1) := by decide +kernel
theorem d_F_addLoad_14 : decode b_F_addLoad 14 = .ok (.aload_n 0, 1) := by decide +kernel
theorem d_F_addLoad_15 : decode b_F_addLoad 15 = .ok (.getfield 26, 3) := by decide +kernel
theorem d_F_addLoad_18 : decode b_F_addLoad 18 = .ok (.iload 4, 2) := by decide +kernel
theorem d_F_addLoad_20 : decode b_F_addLoad 20 = .ok (.iload_n 2, 1) := by decide +kernel
theorem d_F_addLoad_21 : decode b_F_addLoad 21 = .ok (.iastore, 1) := by decide +kernel
theorem d_F_addLoad_22 : decode b_F_addLoad 22 = .ok (.aload_n 0, 1) := by decide +kernel
theorem d_F_addLoad_23 : decode b_F_addLoad 23 = .ok (.getfield 29, 3) := by decide +kernel
theorem d_F_addLoad_26 : decode b_F_addLoad 26 = .ok (.iload 4, 2) := by decide +kernel
theorem d_F_addLoad_28 : decode b_F_addLoad 28 = .ok (.iload_n 3, 1) := by decide +kernel
theorem d_F_addLoad_29 : decode b_F_addLoad 29 = .ok (.iastore, 1) := by decide +kernel
theorem d_F_addLoad_30 : decode b_F_addLoad 30 = .ok (.aload_n 0, 1) := by decide +kernel
theorem d_F_addLoad_31 : decode b_F_addLoad 31 = .ok (.getfield 32, 3) := by decide +kernel
theorem d_F_addLoad_34 : decode b_F_addLoad 34 = .ok (.iload 4, 2) := by decide +kernel
theorem d_F_addLoad_36 : decode b_F_addLoad 36 = .ok (.iconst 1, 1) := by decide +kernel
theorem d_F_addLoad_37 : decode b_F_addLoad 37 = .ok (.bastore, 1) := by decide +kernel
theorem d_F_addLoad_38 : decode b_F_addLoad 38 = .ok (.aload_n 0, 1) := by decide +kernel
theorem d_F_addLoad_39 : decode b_F_addLoad 39 = .ok (.getfield 18, 3) := by decide +kernel
theorem d_F_addLoad_42 : decode b_F_addLoad 42 = .ok (.iload_n 1, 1) := by decide +kernel
theorem d_F_addLoad_43 : decode b_F_addLoad 43 = .ok (.aaload, 1) := by decide +kernel
theorem d_F_addLoad_44 : decode b_F_addLoad 44 = .ok (.getfield 68, 3) := by decide +kernel
theorem d_F_addLoad_47 : decode b_F_addLoad 47 = .ok (.iload_n 2, 1) := by decide +kernel
theorem d_F_addLoad_48 : decode b_F_addLoad 48 = .ok (.dup2, 1) := by decide +kernel
theorem d_F_addLoad_49 : decode b_F_addLoad 49 = .ok (.laload, 1) := by decide +kernel
theorem d_F_addLoad_50 : decode b_F_addLoad 50 = .ok (.iload_n 3, 1) := by decide +kernel
theorem d_F_addLoad_51 : decode b_F_addLoad 51 = .ok (.i2l, 1) := by decide +kernel
theorem d_F_addLoad_52 : decode b_F_addLoad 52 = .ok (.ladd, 1) := by decide +kernel
theorem d_F_addLoad_53 : decode b_F_addLoad 53 = .ok (.lastore, 1) := by decide +kernel
theorem d_F_addLoad_54 : decode b_F_addLoad 54 = .ok (.aload_n 0, 1) := by decide +kernel
theorem d_F_addLoad_55 : decode b_F_addLoad 55 = .ok (.iload 4, 2) := by decide +kernel
theorem d_F_addLoad_57 : decode b_F_addLoad 57 = .ok (.iconst 1, 1) := by decide +kernel
theorem d_F_addLoad_58 : decode b_F_addLoad 58 = .ok (.iadd, 1) := by decide +kernel
theorem d_F_addLoad_59 : decode b_F_addLoad 59 = .ok (.putfield 65, 3) := by decide +kernel
theorem d_F_addLoad_62 : decode b_F_addLoad 62 = .ok (.iload 4, 2) := by decide +kernel
theorem d_F_addLoad_64 : decode b_F_addLoad 64 = .ok (.ireturn, 1) := by decide +kernel
abbrev b_F_removeLoad : ByteArray := prog_4_method_6_code
abbrev y_F_removeLoad : MethodName := ⟨"OldBeams$Frame", "removeLoad", "(I)V"⟩
theorem d_F_removeLoad_0 : decode b_F_removeLoad 0 = .ok (.aload_n 0, 1) := by decide +kernel
theorem d_F_removeLoad_1 : decode b_F_removeLoad 1 = .ok (.getfield 32, 3) := by decide +kernel
theorem d_F_removeLoad_4 : decode b_F_removeLoad 4 = .ok (.iload_n 1, 1) := by decide +kernel
theorem d_F_removeLoad_5 : decode b_F_removeLoad 5 = .ok (.iconst 0, 1) := by decide +kernel
theorem d_F_removeLoad_6 : decode b_F_removeLoad 6 = .ok (.bastore, 1) := by decide +kernel
theorem d_F_removeLoad_7 : decode b_F_removeLoad 7 = .ok (.aload_n 0, 1) := by decide +kernel
theorem d_F_removeLoad_8 : decode b_F_removeLoad 8 = .ok (.getfield 18, 3) := by decide +kernel
theorem d_F_removeLoad_11 : decode b_F_removeLoad 11 = .ok (.aload_n 0, 1) := by decide +kernel
theorem d_F_removeLoad_12 : decode b_F_removeLoad 12 = .ok (.getfield 22, 3) := by decide +kernel
theorem d_F_removeLoad_15 : decode b_F_removeLoad 15 = .ok (.iload_n 1, 1) := by decide +kernel
theorem d_F_removeLoad_16 : decode b_F_removeLoad 16 = .ok (.iaload, 1) := by decide +kernel
theorem d_F_removeLoad_17 : decode b_F_removeLoad 17 = .ok (.aaload, 1) := by decide +kernel
theorem d_F_removeLoad_18 : decode b_F_removeLoad 18 = .ok (.getfield 68, 3) := by decide +kernel
theorem d_F_removeLoad_21 : decode b_F_removeLoad 21 = .ok (.aload_n 0, 1) := by decide +kernel
theorem d_F_removeLoad_22 : decode b_F_removeLoad 22 = .ok (.getfield 26, 3) := by decide +kernel
theorem d_F_removeLoad_25 : decode b_F_removeLoad 25 = .ok (.iload_n 1, 1) := by decide +kernel
theorem d_F_removeLoad_26 : decode b_F_removeLoad 26 = .ok (.iaload, 1) := by decide +kernel
theorem d_F_removeLoad_27 : decode b_F_removeLoad 27 = .ok (.dup2, 1) := by decide +kernel
theorem d_F_removeLoad_28 : decode b_F_removeLoad 28 = .ok (.laload, 1) := by decide +kernel
theorem d_F_removeLoad_29 : decode b_F_removeLoad 29 = .ok (.aload_n 0, 1) := by decide +kernel
theorem d_F_removeLoad_30 : decode b_F_removeLoad 30 = .ok (.getfield 29, 3) := by decide +kernel
theorem d_F_removeLoad_33 : decode b_F_removeLoad 33 = .ok (.iload_n 1, 1) := by decide +kernel
theorem d_F_removeLoad_34 : decode b_F_removeLoad 34 = .ok (.iaload, 1) := by decide +kernel
theorem d_F_removeLoad_35 : decode b_F_removeLoad 35 = .ok (.i2l, 1) := by decide +kernel
theorem d_F_removeLoad_36 : decode b_F_removeLoad 36 = .ok (.lsub, 1) := by decide +kernel
theorem d_F_removeLoad_37 : decode b_F_removeLoad 37 = .ok (.lastore, 1) := by decide +kernel
theorem d_F_removeLoad_38 : decode b_F_removeLoad 38 = .ok (.return_, 1) := by decide +kernel
abbrev b_In_bitCount : ByteArray := prog_8_method_49_code
abbrev y_In_bitCount : MethodName := ⟨"java/lang/Integer", "bitCount", "(I)I"⟩
theorem d_In_bitCount_0 : decode b_In_bitCount 0 = .ok (.iload_n 0, 1) := by decide +kernel
theorem d_In_bitCount_1 : decode b_In_bitCount 1 = .ok (.iload_n 0, 1) := by decide +kernel
theorem d_In_bitCount_2 : decode b_In_bitCount 2 = .ok (.iconst 1, 1) := by decide +kernel
theorem d_In_bitCount_3 : decode b_In_bitCount 3 = .ok (.iushr, 1) := by decide +kernel
theorem d_In_bitCount_4 : decode b_In_bitCount 4 = .ok (.ldc_w 265, 3) := by decide +kernel
theorem d_In_bitCount_7 : decode b_In_bitCount 7 = .ok (.iand, 1) := by decide +kernel
theorem d_In_bitCount_8 : decode b_In_bitCount 8 = .ok (.isub, 1) := by decide +kernel
theorem d_In_bitCount_9 : decode b_In_bitCount 9 = .ok (.istore_n 0, 1) := by decide +kernel
theorem d_In_bitCount_10 : decode b_In_bitCount 10 = .ok (.iload_n 0, 1) := by decide +kernel
theorem d_In_bitCount_11 : decode b_In_bitCount 11 = .ok (.ldc_w 266, 3) := by decide +kernel
theorem d_In_bitCount_14 : decode b_In_bitCount 14 = .ok (.iand, 1) := by decide +kernel
theorem d_In_bitCount_15 : decode b_In_bitCount 15 = .ok (.iload_n 0, 1) := by decide +kernel
theorem d_In_bitCount_16 : decode b_In_bitCount 16 = .ok (.iconst 2, 1) := by decide +kernel
theorem d_In_bitCount_17 : decode b_In_bitCount 17 = .ok (.iushr, 1) := by decide +kernel
theorem d_In_bitCount_18 : decode b_In_bitCount 18 = .ok (.ldc_w 266, 3) := by decide +kernel
theorem d_In_bitCount_21 : decode b_In_bitCount 21 = .ok (.iand, 1) := by decide +kernel
theorem d_In_bitCount_22 : decode b_In_bitCount 22 = .ok (.iadd, 1) := by decide +kernel
theorem d_In_bitCount_23 : decode b_In_bitCount 23 = .ok (.istore_n 0, 1) := by decide +kernel
theorem d_In_bitCount_24 : decode b_In_bitCount 24 = .ok (.iload_n 0, 1) := by decide +kernel
theorem d_In_bitCount_25 : decode b_In_bitCount 25 = .ok (.iload_n 0, 1) := by decide +kernel
theorem d_In_bitCount_26 : decode b_In_bitCount 26 = .ok (.iconst 4, 1) := by decide +kernel
theorem d_In_bitCount_27 : decode b_In_bitCount 27 = .ok (.iushr, 1) := by decide +kernel
theorem d_In_bitCount_28 : decode b_In_bitCount 28 = .ok (.iadd, 1) := by decide +kernel
theorem d_In_bitCount_29 : decode b_In_bitCount 29 = .ok (.ldc_w 267, 3) := by decide +kernel
theorem d_In_bitCount_32 : decode b_In_bitCount 32 = .ok (.iand, 1) := by decide +kernel
theorem d_In_bitCount_33 : decode b_In_bitCount 33 = .ok (.istore_n 0, 1) := by decide +kernel
theorem d_In_bitCount_34 : decode b_In_bitCount 34 = .ok (.iload_n 0, 1) := by decide +kernel
theorem d_In_bitCount_35 : decode b_In_bitCount 35 = .ok (.iload_n 0, 1) := by decide +kernel
theorem d_In_bitCount_36 : decode b_In_bitCount 36 = .ok (.bipush 8, 2) := by decide +kernel
theorem d_In_bitCount_38 : decode b_In_bitCount 38 = .ok (.iushr, 1) := by decide +kernel
theorem d_In_bitCount_39 : decode b_In_bitCount 39 = .ok (.iadd, 1) := by decide +kernel
theorem d_In_bitCount_40 : decode b_In_bitCount 40 = .ok (.istore_n 0, 1) := by decide +kernel
theorem d_In_bitCount_41 : decode b_In_bitCount 41 = .ok (.iload_n 0, 1) := by decide +kernel
theorem d_In_bitCount_42 : decode b_In_bitCount 42 = .ok (.iload_n 0, 1) := by decide +kernel
theorem d_In_bitCount_43 : decode b_In_bitCount 43 = .ok (.bipush 16, 2) := by decide +kernel
theorem d_In_bitCount_45 : decode b_In_bitCount 45 = .ok (.iushr, 1) := by decide +kernel
theorem d_In_bitCount_46 : decode b_In_bitCount 46 = .ok (.iadd, 1) := by decide +kernel
theorem d_In_bitCount_47 : decode b_In_bitCount 47 = .ok (.istore_n 0, 1) := by decide +kernel
theorem d_In_bitCount_48 : decode b_In_bitCount 48 = .ok (.iload_n 0, 1) := by decide +kernel
theorem d_In_bitCount_49 : decode b_In_bitCount 49 = .ok (.bipush 63, 2) := by decide +kernel
theorem d_In_bitCount_51 : decode b_In_bitCount 51 = .ok (.iand, 1) := by decide +kernel
theorem d_In_bitCount_52 : decode b_In_bitCount 52 = .ok (.ireturn, 1) := by decide +kernel
abbrev b_F_reckonNow : ByteArray := prog_4_method_13_code
abbrev y_F_reckonNow : MethodName := ⟨"OldBeams$Frame", "reckonNow", "()V"⟩
theorem d_F_reckonNow_0 : decode b_F_reckonNow 0 = .ok (.aload_n 0, 1) := by decide +kernel
theorem d_F_reckonNow_1 : decode b_F_reckonNow 1 = .ok (.aload_n 0, 1) := by decide +kernel
theorem d_F_reckonNow_2 : decode b_F_reckonNow 2 = .ok (.aload_n 0, 1) := by decide +kernel
theorem d_F_reckonNow_3 : decode b_F_reckonNow 3 = .ok (.getfield 86, 3) := by decide +kernel
theorem d_F_reckonNow_6 : decode b_F_reckonNow 6 = .ok (.invokevirtual 89, 3) := by decide +kernel
theorem d_F_reckonNow_9 : decode b_F_reckonNow 9 = .ok (.aload_n 0, 1) := by decide +kernel
theorem d_F_reckonNow_10 : decode b_F_reckonNow 10 = .ok (.getfield 93, 3) := by decide +kernel
theorem d_F_reckonNow_13 : decode b_F_reckonNow 13 = .ok (.invokevirtual 96, 3) := by decide +kernel
theorem d_F_reckonNow_16 : decode b_F_reckonNow 16 = .ok (.return_, 1) := by decide +kernel
abbrev b_F_reckonAll : ByteArray := prog_4_method_14_code
abbrev y_F_reckonAll : MethodName := ⟨"OldBeams$Frame", "reckonAll", "(II)V"⟩
theorem d_F_reckonAll_0 : decode b_F_reckonAll 0 = .ok (.aload_n 0, 1) := by decide +kernel
theorem d_F_reckonAll_1 : decode b_F_reckonAll 1 = .ok (.iload_n 2, 1) := by decide +kernel
theorem d_F_reckonAll_2 : decode b_F_reckonAll 2 = .ok (.invokevirtual 100, 3) := by decide +kernel
theorem d_F_reckonAll_5 : decode b_F_reckonAll 5 = .ok (.aload_n 0, 1) := by decide +kernel
theorem d_F_reckonAll_6 : decode b_F_reckonAll 6 = .ok (.getfield 46, 3) := by decide +kernel
theorem d_F_reckonAll_9 : decode b_F_reckonAll 9 = .ok (.iconst 1, 1) := by decide +kernel
theorem d_F_reckonAll_10 : decode b_F_reckonAll 10 = .ok (.isub, 1) := by decide +kernel
theorem d_F_reckonAll_11 : decode b_F_reckonAll 11 = .ok (.istore_n 3, 1) := by decide +kernel
theorem d_F_reckonAll_12 : decode b_F_reckonAll 12 = .ok (.iload_n 3, 1) := by decide +kernel
theorem d_F_reckonAll_13 : decode b_F_reckonAll 13 = .ok (.ifCond .lt 27, 3) := by decide +kernel
theorem d_F_reckonAll_16 : decode b_F_reckonAll 16 = .ok (.iload_n 1, 1) := by decide +kernel
theorem d_F_reckonAll_17 : decode b_F_reckonAll 17 = .ok (.iload_n 3, 1) := by decide +kernel
theorem d_F_reckonAll_18 : decode b_F_reckonAll 18 = .ok (.invokestatic 83, 3) := by decide +kernel
theorem d_F_reckonAll_21 : decode b_F_reckonAll 21 = .ok (.ifCond .ne 13, 3) := by decide +kernel
theorem d_F_reckonAll_24 : decode b_F_reckonAll 24 = .ok (.aload_n 0, 1) := by decide +kernel
theorem d_F_reckonAll_25 : decode b_F_reckonAll 25 = .ok (.aload_n 0, 1) := by decide +kernel
theorem d_F_reckonAll_26 : decode b_F_reckonAll 26 = .ok (.getfield 18, 3) := by decide +kernel
theorem d_F_reckonAll_29 : decode b_F_reckonAll 29 = .ok (.iload_n 3, 1) := by decide +kernel
theorem d_F_reckonAll_30 : decode b_F_reckonAll 30 = .ok (.aaload, 1) := by decide +kernel
theorem d_F_reckonAll_31 : decode b_F_reckonAll 31 = .ok (.invokevirtual 104, 3) := by decide +kernel
theorem d_F_reckonAll_34 : decode b_F_reckonAll 34 = .ok (.iinc 3 (-1), 3) := by decide +kernel
theorem d_F_reckonAll_37 : decode b_F_reckonAll 37 = .ok (.goto (-25), 3) := by decide +kernel
theorem d_F_reckonAll_40 : decode b_F_reckonAll 40 = .ok (.return_, 1) := by decide +kernel
abbrev b_F_spreadForces : ByteArray := prog_4_method_15_code
abbrev y_F_spreadForces : MethodName := ⟨"OldBeams$Frame", "spreadForces", "(I)V"⟩
theorem d_F_spreadForces_0 : decode b_F_spreadForces 0 = .ok (.iconst 0, 1) := by decide +kernel
theorem d_F_spreadForces_1 : decode b_F_spreadForces 1 = .ok (.istore_n 2, 1) := by decide +kernel
theorem d_F_spreadForces_2 : decode b_F_spreadForces 2 = .ok (.iload_n 2, 1) := by decide +kernel
theorem d_F_spreadForces_3 : decode b_F_spreadForces 3 = .ok (.aload_n 0, 1) := by decide +kernel
theorem d_F_spreadForces_4 : decode b_F_spreadForces 4 = .ok (.getfield 46, 3) := by decide +kernel
theorem d_F_spreadForces_7 : decode b_F_spreadForces 7 = .ok (.if_icmp .ge 18, 3) := by decide +kernel
theorem d_F_spreadForces_10 : decode b_F_spreadForces 10 = .ok (.aload_n 0, 1) := by decide +kernel
theorem d_F_spreadForces_11 : decode b_F_spreadForces 11 = .ok (.getfield 18, 3) := by decide +kernel
theorem d_F_spreadForces_14 : decode b_F_spreadForces 14 = .ok (.iload_n 2, 1) := by decide +kernel
theorem d_F_spreadForces_15 : decode b_F_spreadForces 15 = .ok (.aaload, 1) := by decide +kernel
theorem d_F_spreadForces_16 : decode b_F_spreadForces 16 = .ok (.invokevirtual 108, 3) := by decide +kernel
theorem d_F_spreadForces_19 : decode b_F_spreadForces 19 = .ok (.iinc 2 1, 3) := by decide +kernel
theorem d_F_spreadForces_22 : decode b_F_spreadForces 22 = .ok (.goto (-20), 3) := by decide +kernel
theorem d_F_spreadForces_25 : decode b_F_spreadForces 25 = .ok (.iconst 0, 1) := by decide +kernel
theorem d_F_spreadForces_26 : decode b_F_spreadForces 26 = .ok (.istore_n 2, 1) := by decide +kernel
theorem d_F_spreadForces_27 : decode b_F_spreadForces 27 = .ok (.iload_n 2, 1) := by decide +kernel
theorem d_F_spreadForces_28 : decode b_F_spreadForces 28 = .ok (.aload_n 0, 1) := by decide +kernel
theorem d_F_spreadForces_29 : decode b_F_spreadForces 29 = .ok (.getfield 72, 3) := by decide +kernel
theorem d_F_spreadForces_32 : decode b_F_spreadForces 32 = .ok (.if_icmp .ge 49, 3) := by decide +kernel
theorem d_F_spreadForces_35 : decode b_F_spreadForces 35 = .ok (.iload_n 1, 1) := by decide +kernel
theorem d_F_spreadForces_36 : decode b_F_spreadForces 36 = .ok (.iload_n 2, 1) := by decide +kernel
theorem d_F_spreadForces_37 : decode b_F_spreadForces 37 = .ok (.invokestatic 111, 3) := by decide +kernel
theorem d_F_spreadForces_40 : decode b_F_spreadForces 40 = .ok (.iand, 1) := by decide +kernel
theorem d_F_spreadForces_41 : decode b_F_spreadForces 41 = .ok (.ifCond .eq 34, 3) := by decide +kernel
theorem d_F_spreadForces_44 : decode b_F_spreadForces 44 = .ok (.aload_n 0, 1) := by decide +kernel
theorem d_F_spreadForces_45 : decode b_F_spreadForces 45 = .ok (.getfield 18, 3) := by decide +kernel
theorem d_F_spreadForces_48 : decode b_F_spreadForces 48 = .ok (.aload_n 0, 1) := by decide +kernel
theorem d_F_spreadForces_49 : decode b_F_spreadForces 49 = .ok (.getfield 36, 3) := by decide +kernel
theorem d_F_spreadForces_52 : decode b_F_spreadForces 52 = .ok (.iload_n 2, 1) := by decide +kernel
theorem d_F_spreadForces_53 : decode b_F_spreadForces 53 = .ok (.iaload, 1) := by decide +kernel
theorem d_F_spreadForces_54 : decode b_F_spreadForces 54 = .ok (.aaload, 1) := by decide +kernel
theorem d_F_spreadForces_55 : decode b_F_spreadForces 55 = .ok (.getfield 114, 3) := by decide +kernel
theorem d_F_spreadForces_58 : decode b_F_spreadForces 58 = .ok (.aload_n 0, 1) := by decide +kernel
theorem d_F_spreadForces_59 : decode b_F_spreadForces 59 = .ok (.getfield 39, 3) := by decide +kernel
theorem d_F_spreadForces_62 : decode b_F_spreadForces 62 = .ok (.iload_n 2, 1) := by decide +kernel
theorem d_F_spreadForces_63 : decode b_F_spreadForces 63 = .ok (.iaload, 1) := by decide +kernel
theorem d_F_spreadForces_64 : decode b_F_spreadForces 64 = .ok (.dup2, 1) := by decide +kernel
theorem d_F_spreadForces_65 : decode b_F_spreadForces 65 = .ok (.laload, 1) := by decide +kernel
theorem d_F_spreadForces_66 : decode b_F_spreadForces 66 = .ok (.aload_n 0, 1) := by decide +kernel
theorem d_F_spreadForces_67 : decode b_F_spreadForces 67 = .ok (.getfield 42, 3) := by decide +kernel
theorem d_F_spreadForces_70 : decode b_F_spreadForces 70 = .ok (.iload_n 2, 1) := by decide +kernel
theorem d_F_spreadForces_71 : decode b_F_spreadForces 71 = .ok (.iaload, 1) := by decide +kernel
theorem d_F_spreadForces_72 : decode b_F_spreadForces 72 = .ok (.i2l, 1) := by decide +kernel
theorem d_F_spreadForces_73 : decode b_F_spreadForces 73 = .ok (.lsub, 1) := by decide +kernel
theorem d_F_spreadForces_74 : decode b_F_spreadForces 74 = .ok (.lastore, 1) := by decide +kernel
theorem d_F_spreadForces_75 : decode b_F_spreadForces 75 = .ok (.iinc 2 1, 3) := by decide +kernel
theorem d_F_spreadForces_78 : decode b_F_spreadForces 78 = .ok (.goto (-51), 3) := by decide +kernel
theorem d_F_spreadForces_81 : decode b_F_spreadForces 81 = .ok (.return_, 1) := by decide +kernel
abbrev b_B_takeLoads : ByteArray := prog_2_method_5_code
abbrev y_B_takeLoads : MethodName := ⟨"OldBeams$Beam", "takeLoads", "()V"⟩
theorem d_B_takeLoads_0 : decode b_B_takeLoads 0 = .ok (.aload_n 0, 1) := by decide +kernel
theorem d_B_takeLoads_1 : decode b_B_takeLoads 1 = .ok (.getfield 21, 3) := by decide +kernel
theorem d_B_takeLoads_4 : decode b_B_takeLoads 4 = .ok (.iconst 0, 1) := by decide +kernel
theorem d_B_takeLoads_5 : decode b_B_takeLoads 5 = .ok (.aload_n 0, 1) := by decide +kernel
theorem d_B_takeLoads_6 : decode b_B_takeLoads 6 = .ok (.getfield 25, 3) := by decide +kernel
theorem d_B_takeLoads_9 : decode b_B_takeLoads 9 = .ok (.iconst 0, 1) := by decide +kernel
theorem d_B_takeLoads_10 : decode b_B_takeLoads 10 = .ok (.aload_n 0, 1) := by decide +kernel
theorem d_B_takeLoads_11 : decode b_B_takeLoads 11 = .ok (.getfield 35, 3) := by decide +kernel
theorem d_B_takeLoads_14 : decode b_B_takeLoads 14 = .ok (.iconst 1, 1) := by decide +kernel
theorem d_B_takeLoads_15 : decode b_B_takeLoads 15 = .ok (.iadd, 1) := by decide +kernel
theorem d_B_takeLoads_16 : decode b_B_takeLoads 16 = .ok (.invokestatic 49, 3) := by decide +kernel
theorem d_B_takeLoads_19 : decode b_B_takeLoads 19 = .ok (.return_, 1) := by decide +kernel
abbrev b_F_propBit : ByteArray := prog_4_method_9_code
abbrev y_F_propBit : MethodName := ⟨"OldBeams$Frame", "propBit", "(I)I"⟩
theorem d_F_propBit_0 : decode b_F_propBit 0 = .ok (.iconst 1, 1) := by decide +kernel
theorem d_F_propBit_1 : decode b_F_propBit 1 = .ok (.bipush 7, 2) := by decide +kernel
theorem d_F_propBit_3 : decode b_F_propBit 3 = .ok (.iload_n 0, 1) := by decide +kernel
theorem d_F_propBit_4 : decode b_F_propBit 4 = .ok (.isub, 1) := by decide +kernel
theorem d_F_propBit_5 : decode b_F_propBit 5 = .ok (.ishl, 1) := by decide +kernel
theorem d_F_propBit_6 : decode b_F_propBit 6 = .ok (.ireturn, 1) := by decide +kernel
abbrev b_F_reckonBeam : ByteArray := prog_4_method_16_code
abbrev y_F_reckonBeam : MethodName := ⟨"OldBeams$Frame", "reckonBeam", "(LOldBeams$Beam;)V"⟩
theorem d_F_reckonBeam_0 : decode b_F_reckonBeam 0 = .ok (.aload_n 1, 1) := by decide +kernel
theorem d_F_reckonBeam_1 : decode b_F_reckonBeam 1 = .ok (.invokevirtual 117, 3) := by decide +kernel
theorem d_F_reckonBeam_4 : decode b_F_reckonBeam 4 = .ok (.aload_n 1, 1) := by decide +kernel
theorem d_F_reckonBeam_5 : decode b_F_reckonBeam 5 = .ok (.invokevirtual 120, 3) := by decide +kernel
theorem d_F_reckonBeam_8 : decode b_F_reckonBeam 8 = .ok (.iconst 0, 1) := by decide +kernel
theorem d_F_reckonBeam_9 : decode b_F_reckonBeam 9 = .ok (.istore_n 2, 1) := by decide +kernel
theorem d_F_reckonBeam_10 : decode b_F_reckonBeam 10 = .ok (.iload_n 2, 1) := by decide +kernel
theorem d_F_reckonBeam_11 : decode b_F_reckonBeam 11 = .ok (.iconst 2, 1) := by decide +kernel
theorem d_F_reckonBeam_12 : decode b_F_reckonBeam 12 = .ok (.if_icmp .ge 49, 3) := by decide +kernel
theorem d_F_reckonBeam_15 : decode b_F_reckonBeam 15 = .ok (.aload_n 1, 1) := by decide +kernel
theorem d_F_reckonBeam_16 : decode b_F_reckonBeam 16 = .ok (.getfield 75, 3) := by decide +kernel
theorem d_F_reckonBeam_19 : decode b_F_reckonBeam 19 = .ok (.iload_n 2, 1) := by decide +kernel
theorem d_F_reckonBeam_20 : decode b_F_reckonBeam 20 = .ok (.iaload, 1) := by decide +kernel
theorem d_F_reckonBeam_21 : decode b_F_reckonBeam 21 = .ok (.istore_n 3, 1) := by decide +kernel
theorem d_F_reckonBeam_22 : decode b_F_reckonBeam 22 = .ok (.aload_n 0, 1) := by decide +kernel
theorem d_F_reckonBeam_23 : decode b_F_reckonBeam 23 = .ok (.iload_n 3, 1) := by decide +kernel
theorem d_F_reckonBeam_24 : decode b_F_reckonBeam 24 = .ok (.invokevirtual 54, 3) := by decide +kernel
theorem d_F_reckonBeam_27 : decode b_F_reckonBeam 27 = .ok (.ifCond .eq 28, 3) := by decide +kernel
theorem d_F_reckonBeam_30 : decode b_F_reckonBeam 30 = .ok (.aload_n 0, 1) := by decide +kernel
theorem d_F_reckonBeam_31 : decode b_F_reckonBeam 31 = .ok (.getfield 18, 3) := by decide +kernel
theorem d_F_reckonBeam_34 : decode b_F_reckonBeam 34 = .ok (.iload_n 3, 1) := by decide +kernel
theorem d_F_reckonBeam_35 : decode b_F_reckonBeam 35 = .ok (.aaload, 1) := by decide +kernel
theorem d_F_reckonBeam_36 : decode b_F_reckonBeam 36 = .ok (.getfield 114, 3) := by decide +kernel
theorem d_F_reckonBeam_39 : decode b_F_reckonBeam 39 = .ok (.aload_n 1, 1) := by decide +kernel
theorem d_F_reckonBeam_40 : decode b_F_reckonBeam 40 = .ok (.getfield 123, 3) := by decide +kernel
theorem d_F_reckonBeam_43 : decode b_F_reckonBeam 43 = .ok (.iload_n 2, 1) := by decide +kernel
theorem d_F_reckonBeam_44 : decode b_F_reckonBeam 44 = .ok (.iaload, 1) := by decide +kernel
theorem d_F_reckonBeam_45 : decode b_F_reckonBeam 45 = .ok (.dup2, 1) := by decide +kernel
theorem d_F_reckonBeam_46 : decode b_F_reckonBeam 46 = .ok (.laload, 1) := by decide +kernel
theorem d_F_reckonBeam_47 : decode b_F_reckonBeam 47 = .ok (.aload_n 1, 1) := by decide +kernel
theorem d_F_reckonBeam_48 : decode b_F_reckonBeam 48 = .ok (.getfield 126, 3) := by decide +kernel
theorem d_F_reckonBeam_51 : decode b_F_reckonBeam 51 = .ok (.iload_n 2, 1) := by decide +kernel
theorem d_F_reckonBeam_52 : decode b_F_reckonBeam 52 = .ok (.laload, 1) := by decide +kernel
theorem d_F_reckonBeam_53 : decode b_F_reckonBeam 53 = .ok (.ladd, 1) := by decide +kernel
theorem d_F_reckonBeam_54 : decode b_F_reckonBeam 54 = .ok (.lastore, 1) := by decide +kernel
theorem d_F_reckonBeam_55 : decode b_F_reckonBeam 55 = .ok (.iinc 2 1, 3) := by decide +kernel
theorem d_F_reckonBeam_58 : decode b_F_reckonBeam 58 = .ok (.goto (-48), 3) := by decide +kernel
theorem d_F_reckonBeam_61 : decode b_F_reckonBeam 61 = .ok (.return_, 1) := by decide +kernel
abbrev b_B_reckonPushes : ByteArray := prog_2_method_6_code
abbrev y_B_reckonPushes : MethodName := ⟨"OldBeams$Beam", "reckonPushes", "()V"⟩
theorem d_B_reckonPushes_0 : decode b_B_reckonPushes 0 = .ok (.aload_n 0, 1) := by decide +kernel
theorem d_B_reckonPushes_1 : decode b_B_reckonPushes 1 = .ok (.getfield 9, 3) := by decide +kernel
theorem d_B_reckonPushes_4 : decode b_B_reckonPushes 4 = .ok (.iconst 1, 1) := by decide +kernel
theorem d_B_reckonPushes_5 : decode b_B_reckonPushes 5 = .ok (.iaload, 1) := by decide +kernel
theorem d_B_reckonPushes_6 : decode b_B_reckonPushes 6 = .ok (.aload_n 0, 1) := by decide +kernel
theorem d_B_reckonPushes_7 : decode b_B_reckonPushes 7 = .ok (.getfield 9, 3) := by decide +kernel
theorem d_B_reckonPushes_10 : decode b_B_reckonPushes 10 = .ok (.iconst 0, 1) := by decide +kernel
theorem d_B_reckonPushes_11 : decode b_B_reckonPushes 11 = .ok (.iaload, 1) := by decide +kernel
theorem d_B_reckonPushes_12 : decode b_B_reckonPushes 12 = .ok (.isub, 1) := by decide +kernel
theorem d_B_reckonPushes_13 : decode b_B_reckonPushes 13 = .ok (.istore_n 1, 1) := by decide +kernel
theorem d_B_reckonPushes_14 : decode b_B_reckonPushes 14 = .ok (.iload_n 1, 1) := by decide +kernel
theorem d_B_reckonPushes_15 : decode b_B_reckonPushes 15 = .ok (.ifCond .gt 4, 3) := by decide +kernel
theorem d_B_reckonPushes_18 : decode b_B_reckonPushes 18 = .ok (.return_, 1) := by decide +kernel
theorem d_B_reckonPushes_19 : decode b_B_reckonPushes 19 = .ok (.lconst 0, 1) := by decide +kernel
theorem d_B_reckonPushes_20 : decode b_B_reckonPushes 20 = .ok (.lstore_n 2, 1) := by decide +kernel
theorem d_B_reckonPushes_21 : decode b_B_reckonPushes 21 = .ok (.lconst 0, 1) := by decide +kernel
theorem d_B_reckonPushes_22 : decode b_B_reckonPushes 22 = .ok (.lstore 4, 2) := by decide +kernel
theorem d_B_reckonPushes_24 : decode b_B_reckonPushes 24 = .ok (.iconst 0, 1) := by decide +kernel
theorem d_B_reckonPushes_25 : decode b_B_reckonPushes 25 = .ok (.istore 6, 2) := by decide +kernel
theorem d_B_reckonPushes_27 : decode b_B_reckonPushes 27 = .ok (.iload 6, 2) := by decide +kernel
theorem d_B_reckonPushes_29 : decode b_B_reckonPushes 29 = .ok (.aload_n 0, 1) := by decide +kernel
theorem d_B_reckonPushes_30 : decode b_B_reckonPushes 30 = .ok (.getfield 35, 3) := by decide +kernel
theorem d_B_reckonPushes_33 : decode b_B_reckonPushes 33 = .ok (.if_icmp .gt 42, 3) := by decide +kernel
theorem d_B_reckonPushes_36 : decode b_B_reckonPushes 36 = .ok (.lload_n 2, 1) := by decide +kernel
theorem d_B_reckonPushes_37 : decode b_B_reckonPushes 37 = .ok (.aload_n 0, 1) := by decide +kernel
theorem d_B_reckonPushes_38 : decode b_B_reckonPushes 38 = .ok (.getfield 25, 3) := by decide +kernel
theorem d_B_reckonPushes_41 : decode b_B_reckonPushes 41 = .ok (.iload 6, 2) := by decide +kernel
theorem d_B_reckonPushes_43 : decode b_B_reckonPushes 43 = .ok (.laload, 1) := by decide +kernel
theorem d_B_reckonPushes_44 : decode b_B_reckonPushes 44 = .ok (.ladd, 1) := by decide +kernel
theorem d_B_reckonPushes_45 : decode b_B_reckonPushes 45 = .ok (.lstore_n 2, 1) := by decide +kernel
theorem d_B_reckonPushes_46 : decode b_B_reckonPushes 46 = .ok (.lload 4, 2) := by decide +kernel
theorem d_B_reckonPushes_48 : decode b_B_reckonPushes 48 = .ok (.aload_n 0, 1) := by decide +kernel
theorem d_B_reckonPushes_49 : decode b_B_reckonPushes 49 = .ok (.getfield 25, 3) := by decide +kernel
theorem d_B_reckonPushes_52 : decode b_B_reckonPushes 52 = .ok (.iload 6, 2) := by decide +kernel
theorem d_B_reckonPushes_54 : decode b_B_reckonPushes 54 = .ok (.laload, 1) := by decide +kernel
theorem d_B_reckonPushes_55 : decode b_B_reckonPushes 55 = .ok (.iload 6, 2) := by decide +kernel
theorem d_B_reckonPushes_57 : decode b_B_reckonPushes 57 = .ok (.aload_n 0, 1) := by decide +kernel
theorem d_B_reckonPushes_58 : decode b_B_reckonPushes 58 = .ok (.getfield 9, 3) := by decide +kernel
theorem d_B_reckonPushes_61 : decode b_B_reckonPushes 61 = .ok (.iconst 0, 1) := by decide +kernel
theorem d_B_reckonPushes_62 : decode b_B_reckonPushes 62 = .ok (.iaload, 1) := by decide +kernel
theorem d_B_reckonPushes_63 : decode b_B_reckonPushes 63 = .ok (.isub, 1) := by decide +kernel
theorem d_B_reckonPushes_64 : decode b_B_reckonPushes 64 = .ok (.i2l, 1) := by decide +kernel
theorem d_B_reckonPushes_65 : decode b_B_reckonPushes 65 = .ok (.lmul, 1) := by decide +kernel
theorem d_B_reckonPushes_66 : decode b_B_reckonPushes 66 = .ok (.ladd, 1) := by decide +kernel
theorem d_B_reckonPushes_67 : decode b_B_reckonPushes 67 = .ok (.lstore 4, 2) := by decide +kernel
theorem d_B_reckonPushes_69 : decode b_B_reckonPushes 69 = .ok (.iinc 6 1, 3) := by decide +kernel
theorem d_B_reckonPushes_72 : decode b_B_reckonPushes 72 = .ok (.goto (-45), 3) := by decide +kernel
theorem d_B_reckonPushes_75 : decode b_B_reckonPushes 75 = .ok (.aload_n 0, 1) := by decide +kernel
theorem d_B_reckonPushes_76 : decode b_B_reckonPushes 76 = .ok (.getfield 28, 3) := by decide +kernel
theorem d_B_reckonPushes_79 : decode b_B_reckonPushes 79 = .ok (.iconst 1, 1) := by decide +kernel
theorem d_B_reckonPushes_80 : decode b_B_reckonPushes 80 = .ok (.lload 4, 2) := by decide +kernel
theorem d_B_reckonPushes_82 : decode b_B_reckonPushes 82 = .ok (.iload_n 1, 1) := by decide +kernel
theorem d_B_reckonPushes_83 : decode b_B_reckonPushes 83 = .ok (.i2l, 1) := by decide +kernel
theorem d_B_reckonPushes_84 : decode b_B_reckonPushes 84 = .ok (.invokestatic 55, 3) := by decide +kernel
theorem d_B_reckonPushes_87 : decode b_B_reckonPushes 87 = .ok (.lastore, 1) := by decide +kernel
theorem d_B_reckonPushes_88 : decode b_B_reckonPushes 88 = .ok (.aload_n 0, 1) := by decide +kernel
theorem d_B_reckonPushes_89 : decode b_B_reckonPushes 89 = .ok (.getfield 28, 3) := by decide +kernel
theorem d_B_reckonPushes_92 : decode b_B_reckonPushes 92 = .ok (.iconst 0, 1) := by decide +kernel
theorem d_B_reckonPushes_93 : decode b_B_reckonPushes 93 = .ok (.lload_n 2, 1) := by decide +kernel
theorem d_B_reckonPushes_94 : decode b_B_reckonPushes 94 = .ok (.aload_n 0, 1) := by decide +kernel
theorem d_B_reckonPushes_95 : decode b_B_reckonPushes 95 = .ok (.getfield 28, 3) := by decide +kernel
theorem d_B_reckonPushes_98 : decode b_B_reckonPushes 98 = .ok (.iconst 1, 1) := by decide +kernel
theorem d_B_reckonPushes_99 : decode b_B_reckonPushes 99 = .ok (.laload, 1) := by decide +kernel
theorem d_B_reckonPushes_100 : decode b_B_reckonPushes 100 = .ok (.lsub, 1) := by decide +kernel
theorem d_B_reckonPushes_101 : decode b_B_reckonPushes 101 = .ok (.lastore, 1) := by decide +kernel
theorem d_B_reckonPushes_102 : decode b_B_reckonPushes 102 = .ok (.return_, 1) := by decide +kernel
abbrev b_Ma_floorDiv : ByteArray := prog_9_method_49_code
abbrev y_Ma_floorDiv : MethodName := ⟨"java/lang/Math", "floorDiv", "(JJ)J"⟩
theorem d_Ma_floorDiv_0 : decode b_Ma_floorDiv 0 = .ok (.lload_n 0, 1) := by decide +kernel
theorem d_Ma_floorDiv_1 : decode b_Ma_floorDiv 1 = .ok (.lload_n 2, 1) := by decide +kernel
theorem d_Ma_floorDiv_2 : decode b_Ma_floorDiv 2 = .ok (.ldiv, 1) := by decide +kernel
theorem d_Ma_floorDiv_3 : decode b_Ma_floorDiv 3 = .ok (.lstore 4, 2) := by decide +kernel
theorem d_Ma_floorDiv_5 : decode b_Ma_floorDiv 5 = .ok (.lload_n 0, 1) := by decide +kernel
theorem d_Ma_floorDiv_6 : decode b_Ma_floorDiv 6 = .ok (.lload_n 2, 1) := by decide +kernel
theorem d_Ma_floorDiv_7 : decode b_Ma_floorDiv 7 = .ok (.lxor, 1) := by decide +kernel
theorem d_Ma_floorDiv_8 : decode b_Ma_floorDiv 8 = .ok (.lconst 0, 1) := by decide +kernel
theorem d_Ma_floorDiv_9 : decode b_Ma_floorDiv 9 = .ok (.lcmp, 1) := by decide +kernel
theorem d_Ma_floorDiv_10 : decode b_Ma_floorDiv 10 = .ok (.ifCond .ge 17, 3) := by decide +kernel
theorem d_Ma_floorDiv_13 : decode b_Ma_floorDiv 13 = .ok (.lload 4, 2) := by decide +kernel
theorem d_Ma_floorDiv_15 : decode b_Ma_floorDiv 15 = .ok (.lload_n 2, 1) := by decide +kernel
theorem d_Ma_floorDiv_16 : decode b_Ma_floorDiv 16 = .ok (.lmul, 1) := by decide +kernel
theorem d_Ma_floorDiv_17 : decode b_Ma_floorDiv 17 = .ok (.lload_n 0, 1) := by decide +kernel
theorem d_Ma_floorDiv_18 : decode b_Ma_floorDiv 18 = .ok (.lcmp, 1) := by decide +kernel
theorem d_Ma_floorDiv_19 : decode b_Ma_floorDiv 19 = .ok (.ifCond .eq 8, 3) := by decide +kernel
theorem d_Ma_floorDiv_22 : decode b_Ma_floorDiv 22 = .ok (.lload 4, 2) := by decide +kernel
theorem d_Ma_floorDiv_24 : decode b_Ma_floorDiv 24 = .ok (.lconst 1, 1) := by decide +kernel
theorem d_Ma_floorDiv_25 : decode b_Ma_floorDiv 25 = .ok (.lsub, 1) := by decide +kernel
theorem d_Ma_floorDiv_26 : decode b_Ma_floorDiv 26 = .ok (.lreturn, 1) := by decide +kernel
theorem d_Ma_floorDiv_27 : decode b_Ma_floorDiv 27 = .ok (.lload 4, 2) := by decide +kernel
theorem d_Ma_floorDiv_29 : decode b_Ma_floorDiv 29 = .ok (.lreturn, 1) := by decide +kernel
abbrev b_B_reckonGreatest : ByteArray := prog_2_method_7_code
abbrev y_B_reckonGreatest : MethodName := ⟨"OldBeams$Beam", "reckonGreatest", "()V"⟩
theorem d_B_reckonGreatest_0 : decode b_B_reckonGreatest 0 = .ok (.aload_n 0, 1) := by decide +kernel
theorem d_B_reckonGreatest_1 : decode b_B_reckonGreatest 1 = .ok (.lconst 0, 1) := by decide +kernel
theorem d_B_reckonGreatest_2 : decode b_B_reckonGreatest 2 = .ok (.putfield 61, 3) := by decide +kernel
theorem d_B_reckonGreatest_5 : decode b_B_reckonGreatest 5 = .ok (.aload_n 0, 1) := by decide +kernel
theorem d_B_reckonGreatest_6 : decode b_B_reckonGreatest 6 = .ok (.iconst 0, 1) := by decide +kernel
theorem d_B_reckonGreatest_7 : decode b_B_reckonGreatest 7 = .ok (.putfield 65, 3) := by decide +kernel
theorem d_B_reckonGreatest_10 : decode b_B_reckonGreatest 10 = .ok (.lconst 0, 1) := by decide +kernel
theorem d_B_reckonGreatest_11 : decode b_B_reckonGreatest 11 = .ok (.lstore_n 1, 1) := by decide +kernel
theorem d_B_reckonGreatest_12 : decode b_B_reckonGreatest 12 = .ok (.lconst 0, 1) := by decide +kernel
theorem d_B_reckonGreatest_13 : decode b_B_reckonGreatest 13 = .ok (.lstore_n 3, 1) := by decide +kernel
theorem d_B_reckonGreatest_14 : decode b_B_reckonGreatest 14 = .ok (.iconst 0, 1) := by decide +kernel
theorem d_B_reckonGreatest_15 : decode b_B_reckonGreatest 15 = .ok (.istore 5, 2) := by decide +kernel
theorem d_B_reckonGreatest_17 : decode b_B_reckonGreatest 17 = .ok (.iload 5, 2) := by decide +kernel
theorem d_B_reckonGreatest_19 : decode b_B_reckonGreatest 19 = .ok (.aload_n 0, 1) := by decide +kernel
theorem d_B_reckonGreatest_20 : decode b_B_reckonGreatest 20 = .ok (.getfield 35, 3) := by decide +kernel
theorem d_B_reckonGreatest_23 : decode b_B_reckonGreatest 23 = .ok (.if_icmp .gt 91, 3) := by decide +kernel
theorem d_B_reckonGreatest_26 : decode b_B_reckonGreatest 26 = .ok (.lload_n 1, 1) := by decide +kernel
theorem d_B_reckonGreatest_27 : decode b_B_reckonGreatest 27 = .ok (.invokestatic 68, 3) := by decide +kernel
theorem d_B_reckonGreatest_30 : decode b_B_reckonGreatest 30 = .ok (.lstore 6, 2) := by decide +kernel
theorem d_B_reckonGreatest_32 : decode b_B_reckonGreatest 32 = .ok (.lload 6, 2) := by decide +kernel
theorem d_B_reckonGreatest_34 : decode b_B_reckonGreatest 34 = .ok (.aload_n 0, 1) := by decide +kernel
theorem d_B_reckonGreatest_35 : decode b_B_reckonGreatest 35 = .ok (.getfield 61, 3) := by decide +kernel
theorem d_B_reckonGreatest_38 : decode b_B_reckonGreatest 38 = .ok (.lcmp, 1) := by decide +kernel
theorem d_B_reckonGreatest_39 : decode b_B_reckonGreatest 39 = .ok (.ifCond .le 15, 3) := by decide +kernel
theorem d_B_reckonGreatest_42 : decode b_B_reckonGreatest 42 = .ok (.aload_n 0, 1) := by decide +kernel
theorem d_B_reckonGreatest_43 : decode b_B_reckonGreatest 43 = .ok (.lload 6, 2) := by decide +kernel
theorem d_B_reckonGreatest_45 : decode b_B_reckonGreatest 45 = .ok (.putfield 61, 3) := by decide +kernel
theorem d_B_reckonGreatest_48 : decode b_B_reckonGreatest 48 = .ok (.aload_n 0, 1) := by decide +kernel
theorem d_B_reckonGreatest_49 : decode b_B_reckonGreatest 49 = .ok (.iload 5, 2) := by decide +kernel
theorem d_B_reckonGreatest_51 : decode b_B_reckonGreatest 51 = .ok (.putfield 65, 3) := by decide +kernel
theorem d_B_reckonGreatest_54 : decode b_B_reckonGreatest 54 = .ok (.lload_n 3, 1) := by decide +kernel
theorem d_B_reckonGreatest_55 : decode b_B_reckonGreatest 55 = .ok (.aload_n 0, 1) := by decide +kernel
theorem d_B_reckonGreatest_56 : decode b_B_reckonGreatest 56 = .ok (.getfield 25, 3) := by decide +kernel
theorem d_B_reckonGreatest_59 : decode b_B_reckonGreatest 59 = .ok (.iload 5, 2) := by decide +kernel
theorem d_B_reckonGreatest_61 : decode b_B_reckonGreatest 61 = .ok (.laload, 1) := by decide +kernel
theorem d_B_reckonGreatest_62 : decode b_B_reckonGreatest 62 = .ok (.ladd, 1) := by decide +kernel
theorem d_B_reckonGreatest_63 : decode b_B_reckonGreatest 63 = .ok (.lstore_n 3, 1) := by decide +kernel
theorem d_B_reckonGreatest_64 : decode b_B_reckonGreatest 64 = .ok (.iload 5, 2) := by decide +kernel
theorem d_B_reckonGreatest_66 : decode b_B_reckonGreatest 66 = .ok (.aload_n 0, 1) := by decide +kernel
theorem d_B_reckonGreatest_67 : decode b_B_reckonGreatest 67 = .ok (.getfield 9, 3) := by decide +kernel
theorem d_B_reckonGreatest_70 : decode b_B_reckonGreatest 70 = .ok (.iconst 0, 1) := by decide +kernel
theorem d_B_reckonGreatest_71 : decode b_B_reckonGreatest 71 = .ok (.iaload, 1) := by decide +kernel
theorem d_B_reckonGreatest_72 : decode b_B_reckonGreatest 72 = .ok (.if_icmp .ne 12, 3) := by decide +kernel
theorem d_B_reckonGreatest_75 : decode b_B_reckonGreatest 75 = .ok (.lload_n 3, 1) := by decide +kernel
theorem d_B_reckonGreatest_76 : decode b_B_reckonGreatest 76 = .ok (.aload_n 0, 1) := by decide +kernel
theorem d_B_reckonGreatest_77 : decode b_B_reckonGreatest 77 = .ok (.getfield 28, 3) := by decide +kernel
theorem d_B_reckonGreatest_80 : decode b_B_reckonGreatest 80 = .ok (.iconst 0, 1) := by decide +kernel
theorem d_B_reckonGreatest_81 : decode b_B_reckonGreatest 81 = .ok (.laload, 1) := by decide +kernel
theorem d_B_reckonGreatest_82 : decode b_B_reckonGreatest 82 = .ok (.lsub, 1) := by decide +kernel
theorem d_B_reckonGreatest_83 : decode b_B_reckonGreatest 83 = .ok (.lstore_n 3, 1) := by decide +kernel
theorem d_B_reckonGreatest_84 : decode b_B_reckonGreatest 84 = .ok (.iload 5, 2) := by decide +kernel
theorem d_B_reckonGreatest_86 : decode b_B_reckonGreatest 86 = .ok (.aload_n 0, 1) := by decide +kernel
theorem d_B_reckonGreatest_87 : decode b_B_reckonGreatest 87 = .ok (.getfield 9, 3) := by decide +kernel
theorem d_B_reckonGreatest_90 : decode b_B_reckonGreatest 90 = .ok (.iconst 1, 1) := by decide +kernel
theorem d_B_reckonGreatest_91 : decode b_B_reckonGreatest 91 = .ok (.iaload, 1) := by decide +kernel
theorem d_B_reckonGreatest_92 : decode b_B_reckonGreatest 92 = .ok (.if_icmp .ne 12, 3) := by decide +kernel
theorem d_B_reckonGreatest_95 : decode b_B_reckonGreatest 95 = .ok (.lload_n 3, 1) := by decide +kernel
theorem d_B_reckonGreatest_96 : decode b_B_reckonGreatest 96 = .ok (.aload_n 0, 1) := by decide +kernel
theorem d_B_reckonGreatest_97 : decode b_B_reckonGreatest 97 = .ok (.getfield 28, 3) := by decide +kernel
theorem d_B_reckonGreatest_100 : decode b_B_reckonGreatest 100 = .ok (.iconst 1, 1) := by decide +kernel
theorem d_B_reckonGreatest_101 : decode b_B_reckonGreatest 101 = .ok (.laload, 1) := by decide +kernel
theorem d_B_reckonGreatest_102 : decode b_B_reckonGreatest 102 = .ok (.lsub, 1) := by decide +kernel
theorem d_B_reckonGreatest_103 : decode b_B_reckonGreatest 103 = .ok (.lstore_n 3, 1) := by decide +kernel
theorem d_B_reckonGreatest_104 : decode b_B_reckonGreatest 104 = .ok (.lload_n 1, 1) := by decide +kernel
theorem d_B_reckonGreatest_105 : decode b_B_reckonGreatest 105 = .ok (.lload_n 3, 1) := by decide +kernel
theorem d_B_reckonGreatest_106 : decode b_B_reckonGreatest 106 = .ok (.ladd, 1) := by decide +kernel
theorem d_B_reckonGreatest_107 : decode b_B_reckonGreatest 107 = .ok (.lstore_n 1, 1) := by decide +kernel
theorem d_B_reckonGreatest_108 : decode b_B_reckonGreatest 108 = .ok (.iinc 5 1, 3) := by decide +kernel
theorem d_B_reckonGreatest_111 : decode b_B_reckonGreatest 111 = .ok (.goto (-94), 3) := by decide +kernel
theorem d_B_reckonGreatest_114 : decode b_B_reckonGreatest 114 = .ok (.return_, 1) := by decide +kernel
abbrev b_Ma_abs : ByteArray := prog_9_method_61_code
abbrev y_Ma_abs : MethodName := ⟨"java/lang/Math", "abs", "(J)J"⟩
theorem d_Ma_abs_0 : decode b_Ma_abs 0 = .ok (.lload_n 0, 1) := by decide +kernel
theorem d_Ma_abs_1 : decode b_Ma_abs 1 = .ok (.lconst 0, 1) := by decide +kernel
theorem d_Ma_abs_2 : decode b_Ma_abs 2 = .ok (.lcmp, 1) := by decide +kernel
theorem d_Ma_abs_3 : decode b_Ma_abs 3 = .ok (.ifCond .ge 8, 3) := by decide +kernel
theorem d_Ma_abs_6 : decode b_Ma_abs 6 = .ok (.lload_n 0, 1) := by decide +kernel
theorem d_Ma_abs_7 : decode b_Ma_abs 7 = .ok (.lneg, 1) := by decide +kernel
theorem d_Ma_abs_8 : decode b_Ma_abs 8 = .ok (.goto 4, 3) := by decide +kernel
theorem d_Ma_abs_11 : decode b_Ma_abs 11 = .ok (.lload_n 0, 1) := by decide +kernel
theorem d_Ma_abs_12 : decode b_Ma_abs 12 = .ok (.lreturn, 1) := by decide +kernel
abbrev b_B_bendingAt : ByteArray := prog_2_method_8_code
abbrev y_B_bendingAt : MethodName := ⟨"OldBeams$Beam", "bendingAt", "(I)J"⟩
theorem d_B_bendingAt_0 : decode b_B_bendingAt 0 = .ok (.lconst 0, 1) := by decide +kernel
theorem d_B_bendingAt_1 : decode b_B_bendingAt 1 = .ok (.lstore_n 2, 1) := by decide +kernel
theorem d_B_bendingAt_2 : decode b_B_bendingAt 2 = .ok (.iconst 0, 1) := by decide +kernel
theorem d_B_bendingAt_3 : decode b_B_bendingAt 3 = .ok (.istore 4, 2) := by decide +kernel
theorem d_B_bendingAt_5 : decode b_B_bendingAt 5 = .ok (.iload 4, 2) := by decide +kernel
theorem d_B_bendingAt_7 : decode b_B_bendingAt 7 = .ok (.iload_n 1, 1) := by decide +kernel
theorem d_B_bendingAt_8 : decode b_B_bendingAt 8 = .ok (.if_icmp .ge 34, 3) := by decide +kernel
theorem d_B_bendingAt_11 : decode b_B_bendingAt 11 = .ok (.iload 4, 2) := by decide +kernel
theorem d_B_bendingAt_13 : decode b_B_bendingAt 13 = .ok (.aload_n 0, 1) := by decide +kernel
theorem d_B_bendingAt_14 : decode b_B_bendingAt 14 = .ok (.getfield 35, 3) := by decide +kernel
theorem d_B_bendingAt_17 : decode b_B_bendingAt 17 = .ok (.if_icmp .gt 25, 3) := by decide +kernel
theorem d_B_bendingAt_20 : decode b_B_bendingAt 20 = .ok (.lload_n 2, 1) := by decide +kernel
theorem d_B_bendingAt_21 : decode b_B_bendingAt 21 = .ok (.aload_n 0, 1) := by decide +kernel
theorem d_B_bendingAt_22 : decode b_B_bendingAt 22 = .ok (.getfield 25, 3) := by decide +kernel
theorem d_B_bendingAt_25 : decode b_B_bendingAt 25 = .ok (.iload 4, 2) := by decide +kernel
theorem d_B_bendingAt_27 : decode b_B_bendingAt 27 = .ok (.laload, 1) := by decide +kernel
theorem d_B_bendingAt_28 : decode b_B_bendingAt 28 = .ok (.iload_n 1, 1) := by decide +kernel
theorem d_B_bendingAt_29 : decode b_B_bendingAt 29 = .ok (.iload 4, 2) := by decide +kernel
theorem d_B_bendingAt_31 : decode b_B_bendingAt 31 = .ok (.isub, 1) := by decide +kernel
theorem d_B_bendingAt_32 : decode b_B_bendingAt 32 = .ok (.i2l, 1) := by decide +kernel
theorem d_B_bendingAt_33 : decode b_B_bendingAt 33 = .ok (.lmul, 1) := by decide +kernel
theorem d_B_bendingAt_34 : decode b_B_bendingAt 34 = .ok (.ladd, 1) := by decide +kernel
theorem d_B_bendingAt_35 : decode b_B_bendingAt 35 = .ok (.lstore_n 2, 1) := by decide +kernel
theorem d_B_bendingAt_36 : decode b_B_bendingAt 36 = .ok (.iinc 4 1, 3) := by decide +kernel
theorem d_B_bendingAt_39 : decode b_B_bendingAt 39 = .ok (.goto (-34), 3) := by decide +kernel
theorem d_B_bendingAt_42 : decode b_B_bendingAt 42 = .ok (.iconst 0, 1) := by decide +kernel
theorem d_B_bendingAt_43 : decode b_B_bendingAt 43 = .ok (.istore 4, 2) := by decide +kernel
theorem d_B_bendingAt_45 : decode b_B_bendingAt 45 = .ok (.iload 4, 2) := by decide +kernel
theorem d_B_bendingAt_47 : decode b_B_bendingAt 47 = .ok (.iconst 2, 1) := by decide +kernel
theorem d_B_bendingAt_48 : decode b_B_bendingAt 48 = .ok (.if_icmp .ge 41, 3) := by decide +kernel
theorem d_B_bendingAt_51 : decode b_B_bendingAt 51 = .ok (.aload_n 0, 1) := by decide +kernel
theorem d_B_bendingAt_52 : decode b_B_bendingAt 52 = .ok (.getfield 9, 3) := by decide +kernel
theorem d_B_bendingAt_55 : decode b_B_bendingAt 55 = .ok (.iload 4, 2) := by decide +kernel
theorem d_B_bendingAt_57 : decode b_B_bendingAt 57 = .ok (.iaload, 1) := by decide +kernel
theorem d_B_bendingAt_58 : decode b_B_bendingAt 58 = .ok (.iload_n 1, 1) := by decide +kernel
theorem d_B_bendingAt_59 : decode b_B_bendingAt 59 = .ok (.if_icmp .ge 24, 3) := by decide +kernel
theorem d_B_bendingAt_62 : decode b_B_bendingAt 62 = .ok (.lload_n 2, 1) := by decide +kernel
theorem d_B_bendingAt_63 : decode b_B_bendingAt 63 = .ok (.aload_n 0, 1) := by decide +kernel
theorem d_B_bendingAt_64 : decode b_B_bendingAt 64 = .ok (.getfield 28, 3) := by decide +kernel
theorem d_B_bendingAt_67 : decode b_B_bendingAt 67 = .ok (.iload 4, 2) := by decide +kernel
theorem d_B_bendingAt_69 : decode b_B_bendingAt 69 = .ok (.laload, 1) := by decide +kernel
theorem d_B_bendingAt_70 : decode b_B_bendingAt 70 = .ok (.iload_n 1, 1) := by decide +kernel
theorem d_B_bendingAt_71 : decode b_B_bendingAt 71 = .ok (.aload_n 0, 1) := by decide +kernel
theorem d_B_bendingAt_72 : decode b_B_bendingAt 72 = .ok (.getfield 9, 3) := by decide +kernel
theorem d_B_bendingAt_75 : decode b_B_bendingAt 75 = .ok (.iload 4, 2) := by decide +kernel
theorem d_B_bendingAt_77 : decode b_B_bendingAt 77 = .ok (.iaload, 1) := by decide +kernel
theorem d_B_bendingAt_78 : decode b_B_bendingAt 78 = .ok (.isub, 1) := by decide +kernel
theorem d_B_bendingAt_79 : decode b_B_bendingAt 79 = .ok (.i2l, 1) := by decide +kernel
theorem d_B_bendingAt_80 : decode b_B_bendingAt 80 = .ok (.lmul, 1) := by decide +kernel
theorem d_B_bendingAt_81 : decode b_B_bendingAt 81 = .ok (.lsub, 1) := by decide +kernel
theorem d_B_bendingAt_82 : decode b_B_bendingAt 82 = .ok (.lstore_n 2, 1) := by decide +kernel
theorem d_B_bendingAt_83 : decode b_B_bendingAt 83 = .ok (.iinc 4 1, 3) := by decide +kernel
theorem d_B_bendingAt_86 : decode b_B_bendingAt 86 = .ok (.goto (-41), 3) := by decide +kernel
theorem d_B_bendingAt_89 : decode b_B_bendingAt 89 = .ok (.lload_n 2, 1) := by decide +kernel
theorem d_B_bendingAt_90 : decode b_B_bendingAt 90 = .ok (.lreturn, 1) := by decide +kernel
abbrev b_B_isLifted : ByteArray := prog_2_method_9_code
abbrev y_B_isLifted : MethodName := ⟨"OldBeams$Beam", "isLifted", "()Z"⟩
theorem d_B_isLifted_0 : decode b_B_isLifted 0 = .ok (.aload_n 0, 1) := by decide +kernel
theorem d_B_isLifted_1 : decode b_B_isLifted 1 = .ok (.getfield 28, 3) := by decide +kernel
theorem d_B_isLifted_4 : decode b_B_isLifted 4 = .ok (.iconst 0, 1) := by decide +kernel
theorem d_B_isLifted_5 : decode b_B_isLifted 5 = .ok (.laload, 1) := by decide +kernel
theorem d_B_isLifted_6 : decode b_B_isLifted 6 = .ok (.lconst 0, 1) := by decide +kernel
theorem d_B_isLifted_7 : decode b_B_isLifted 7 = .ok (.lcmp, 1) := by decide +kernel
theorem d_B_isLifted_8 : decode b_B_isLifted 8 = .ok (.ifCond .lt 14, 3) := by decide +kernel
theorem d_B_isLifted_11 : decode b_B_isLifted 11 = .ok (.aload_n 0, 1) := by decide +kernel
theorem d_B_isLifted_12 : decode b_B_isLifted 12 = .ok (.getfield 28, 3) := by decide +kernel
theorem d_B_isLifted_15 : decode b_B_isLifted 15 = .ok (.iconst 1, 1) := by decide +kernel
theorem d_B_isLifted_16 : decode b_B_isLifted 16 = .ok (.laload, 1) := by decide +kernel
theorem d_B_isLifted_17 : decode b_B_isLifted 17 = .ok (.lconst 0, 1) := by decide +kernel
theorem d_B_isLifted_18 : decode b_B_isLifted 18 = .ok (.lcmp, 1) := by decide +kernel
theorem d_B_isLifted_19 : decode b_B_isLifted 19 = .ok (.ifCond .ge 7, 3) := by decide +kernel
theorem d_B_isLifted_22 : decode b_B_isLifted 22 = .ok (.iconst 1, 1) := by decide +kernel
theorem d_B_isLifted_23 : decode b_B_isLifted 23 = .ok (.goto 4, 3) := by decide +kernel
theorem d_B_isLifted_26 : decode b_B_isLifted 26 = .ok (.iconst 0, 1) := by decide +kernel
theorem d_B_isLifted_27 : decode b_B_isLifted 27 = .ok (.ireturn, 1) := by decide +kernel
abbrev b_F_holdsWith : ByteArray := prog_4_method_18_code
abbrev y_F_holdsWith : MethodName := ⟨"OldBeams$Frame", "holdsWith", "(II)Z"⟩
theorem d_F_holdsWith_0 : decode b_F_holdsWith 0 = .ok (.aload_n 0, 1) := by decide +kernel
theorem d_F_holdsWith_1 : decode b_F_holdsWith 1 = .ok (.getfield 18, 3) := by decide +kernel
theorem d_F_holdsWith_4 : decode b_F_holdsWith 4 = .ok (.iload_n 1, 1) := by decide +kernel
theorem d_F_holdsWith_5 : decode b_F_holdsWith 5 = .ok (.aaload, 1) := by decide +kernel
theorem d_F_holdsWith_6 : decode b_F_holdsWith 6 = .ok (.astore_n 3, 1) := by decide +kernel
theorem d_F_holdsWith_7 : decode b_F_holdsWith 7 = .ok (.aload_n 3, 1) := by decide +kernel
theorem d_F_holdsWith_8 : decode b_F_holdsWith 8 = .ok (.invokevirtual 138, 3) := by decide +kernel
theorem d_F_holdsWith_11 : decode b_F_holdsWith 11 = .ok (.ifCond .ne 26, 3) := by decide +kernel
theorem d_F_holdsWith_14 : decode b_F_holdsWith 14 = .ok (.aload_n 3, 1) := by decide +kernel
theorem d_F_holdsWith_15 : decode b_F_holdsWith 15 = .ok (.getfield 142, 3) := by decide +kernel
theorem d_F_holdsWith_18 : decode b_F_holdsWith 18 = .ok (.aload_n 0, 1) := by decide +kernel
theorem d_F_holdsWith_19 : decode b_F_holdsWith 19 = .ok (.iload_n 1, 1) := by decide +kernel
theorem d_F_holdsWith_20 : decode b_F_holdsWith 20 = .ok (.invokevirtual 146, 3) := by decide +kernel
theorem d_F_holdsWith_23 : decode b_F_holdsWith 23 = .ok (.iload_n 2, 1) := by decide +kernel
theorem d_F_holdsWith_24 : decode b_F_holdsWith 24 = .ok (.imul, 1) := by decide +kernel
theorem d_F_holdsWith_25 : decode b_F_holdsWith 25 = .ok (.bipush 10, 2) := by decide +kernel
theorem d_F_holdsWith_27 : decode b_F_holdsWith 27 = .ok (.idiv, 1) := by decide +kernel
theorem d_F_holdsWith_28 : decode b_F_holdsWith 28 = .ok (.i2l, 1) := by decide +kernel
theorem d_F_holdsWith_29 : decode b_F_holdsWith 29 = .ok (.lcmp, 1) := by decide +kernel
theorem d_F_holdsWith_30 : decode b_F_holdsWith 30 = .ok (.ifCond .gt 7, 3) := by decide +kernel
theorem d_F_holdsWith_33 : decode b_F_holdsWith 33 = .ok (.iconst 1, 1) := by decide +kernel
theorem d_F_holdsWith_34 : decode b_F_holdsWith 34 = .ok (.goto 4, 3) := by decide +kernel
theorem d_F_holdsWith_37 : decode b_F_holdsWith 37 = .ok (.iconst 0, 1) := by decide +kernel
theorem d_F_holdsWith_38 : decode b_F_holdsWith 38 = .ok (.ireturn, 1) := by decide +kernel
abbrev b_K_countAt : ByteArray := prog_5_method_3_code
abbrev y_K_countAt : MethodName := ⟨"OldBeams$Looks", "countAt", "(I)I"⟩
theorem d_K_countAt_0 : decode b_K_countAt 0 = .ok (.iconst 0, 1) := by decide +kernel
theorem d_K_countAt_1 : decode b_K_countAt 1 = .ok (.istore_n 2, 1) := by decide +kernel
theorem d_K_countAt_2 : decode b_K_countAt 2 = .ok (.iconst 0, 1) := by decide +kernel
theorem d_K_countAt_3 : decode b_K_countAt 3 = .ok (.istore_n 3, 1) := by decide +kernel
theorem d_K_countAt_4 : decode b_K_countAt 4 = .ok (.iload_n 3, 1) := by decide +kernel
theorem d_K_countAt_5 : decode b_K_countAt 5 = .ok (.aload_n 0, 1) := by decide +kernel
theorem d_K_countAt_6 : decode b_K_countAt 6 = .ok (.getfield 39, 3) := by decide +kernel
theorem d_K_countAt_9 : decode b_K_countAt 9 = .ok (.if_icmp .ge 22, 3) := by decide +kernel
theorem d_K_countAt_12 : decode b_K_countAt 12 = .ok (.aload_n 0, 1) := by decide +kernel
theorem d_K_countAt_13 : decode b_K_countAt 13 = .ok (.getfield 19, 3) := by decide +kernel
theorem d_K_countAt_16 : decode b_K_countAt 16 = .ok (.iload_n 3, 1) := by decide +kernel
theorem d_K_countAt_17 : decode b_K_countAt 17 = .ok (.iaload, 1) := by decide +kernel
theorem d_K_countAt_18 : decode b_K_countAt 18 = .ok (.iload_n 1, 1) := by decide +kernel
theorem d_K_countAt_19 : decode b_K_countAt 19 = .ok (.if_icmp .ne 6, 3) := by decide +kernel
theorem d_K_countAt_22 : decode b_K_countAt 22 = .ok (.iinc 2 1, 3) := by decide +kernel
theorem d_K_countAt_25 : decode b_K_countAt 25 = .ok (.iinc 3 1, 3) := by decide +kernel
theorem d_K_countAt_28 : decode b_K_countAt 28 = .ok (.goto (-24), 3) := by decide +kernel
theorem d_K_countAt_31 : decode b_K_countAt 31 = .ok (.iload_n 2, 1) := by decide +kernel
theorem d_K_countAt_32 : decode b_K_countAt 32 = .ok (.ireturn, 1) := by decide +kernel
abbrev b_K_anyWeightLeft : ByteArray := prog_5_method_2_code
abbrev y_K_anyWeightLeft : MethodName := ⟨"OldBeams$Looks", "anyWeightLeft", "(III)Z"⟩
theorem d_K_anyWeightLeft_0 : decode b_K_anyWeightLeft 0 = .ok (.iconst 0, 1) := by decide +kernel
theorem d_K_anyWeightLeft_1 : decode b_K_anyWeightLeft 1 = .ok (.istore 4, 2) := by decide +kernel
theorem d_K_anyWeightLeft_3 : decode b_K_anyWeightLeft 3 = .ok (.iload 4, 2) := by decide +kernel
theorem d_K_anyWeightLeft_5 : decode b_K_anyWeightLeft 5 = .ok (.bipush 11, 2) := by decide +kernel
theorem d_K_anyWeightLeft_7 : decode b_K_anyWeightLeft 7 = .ok (.if_icmp .ge 37, 3) := by decide +kernel
theorem d_K_anyWeightLeft_10 : decode b_K_anyWeightLeft 10 = .ok (.iload 4, 2) := by decide +kernel
theorem d_K_anyWeightLeft_12 : decode b_K_anyWeightLeft 12 = .ok (.iload_n 2, 1) := by decide +kernel
theorem d_K_anyWeightLeft_13 : decode b_K_anyWeightLeft 13 = .ok (.if_icmp .ne 7, 3) := by decide +kernel
theorem d_K_anyWeightLeft_16 : decode b_K_anyWeightLeft 16 = .ok (.iload_n 3, 1) := by decide +kernel
theorem d_K_anyWeightLeft_17 : decode b_K_anyWeightLeft 17 = .ok (.goto 12, 3) := by decide +kernel
theorem d_K_anyWeightLeft_20 : decode b_K_anyWeightLeft 20 = .ok (.aload_n 0, 1) := by decide +kernel
theorem d_K_anyWeightLeft_21 : decode b_K_anyWeightLeft 21 = .ok (.getfield 11, 3) := by decide +kernel
theorem d_K_anyWeightLeft_24 : decode b_K_anyWeightLeft 24 = .ok (.iload_n 1, 1) := by decide +kernel
theorem d_K_anyWeightLeft_25 : decode b_K_anyWeightLeft 25 = .ok (.aaload, 1) := by decide +kernel
theorem d_K_anyWeightLeft_26 : decode b_K_anyWeightLeft 26 = .ok (.iload 4, 2) := by decide +kernel
theorem d_K_anyWeightLeft_28 : decode b_K_anyWeightLeft 28 = .ok (.iaload, 1) := by decide +kernel
theorem d_K_anyWeightLeft_29 : decode b_K_anyWeightLeft 29 = .ok (.istore 5, 2) := by decide +kernel
theorem d_K_anyWeightLeft_31 : decode b_K_anyWeightLeft 31 = .ok (.iload 5, 2) := by decide +kernel
theorem d_K_anyWeightLeft_33 : decode b_K_anyWeightLeft 33 = .ok (.ifCond .le 5, 3) := by decide +kernel
theorem d_K_anyWeightLeft_36 : decode b_K_anyWeightLeft 36 = .ok (.iconst 1, 1) := by decide +kernel
theorem d_K_anyWeightLeft_37 : decode b_K_anyWeightLeft 37 = .ok (.ireturn, 1) := by decide +kernel
theorem d_K_anyWeightLeft_38 : decode b_K_anyWeightLeft 38 = .ok (.iinc 4 1, 3) := by decide +kernel
theorem d_K_anyWeightLeft_41 : decode b_K_anyWeightLeft 41 = .ok (.goto (-38), 3) := by decide +kernel
theorem d_K_anyWeightLeft_44 : decode b_K_anyWeightLeft 44 = .ok (.iconst 0, 1) := by decide +kernel
theorem d_K_anyWeightLeft_45 : decode b_K_anyWeightLeft 45 = .ok (.ireturn, 1) := by decide +kernel
abbrev b_K_isUsed : ByteArray := prog_5_method_4_code
abbrev y_K_isUsed : MethodName := ⟨"OldBeams$Looks", "isUsed", "(I)Z"⟩
theorem d_K_isUsed_0 : decode b_K_isUsed 0 = .ok (.iconst 0, 1) := by decide +kernel
theorem d_K_isUsed_1 : decode b_K_isUsed 1 = .ok (.istore_n 2, 1) := by decide +kernel
theorem d_K_isUsed_2 : decode b_K_isUsed 2 = .ok (.iload_n 2, 1) := by decide +kernel
theorem d_K_isUsed_3 : decode b_K_isUsed 3 = .ok (.aload_n 0, 1) := by decide +kernel
theorem d_K_isUsed_4 : decode b_K_isUsed 4 = .ok (.getfield 39, 3) := by decide +kernel
theorem d_K_isUsed_7 : decode b_K_isUsed 7 = .ok (.if_icmp .ge 21, 3) := by decide +kernel
theorem d_K_isUsed_10 : decode b_K_isUsed 10 = .ok (.aload_n 0, 1) := by decide +kernel
theorem d_K_isUsed_11 : decode b_K_isUsed 11 = .ok (.getfield 23, 3) := by decide +kernel
theorem d_K_isUsed_14 : decode b_K_isUsed 14 = .ok (.iload_n 2, 1) := by decide +kernel
theorem d_K_isUsed_15 : decode b_K_isUsed 15 = .ok (.iaload, 1) := by decide +kernel
theorem d_K_isUsed_16 : decode b_K_isUsed 16 = .ok (.iload_n 1, 1) := by decide +kernel
theorem d_K_isUsed_17 : decode b_K_isUsed 17 = .ok (.if_icmp .ne 5, 3) := by decide +kernel
theorem d_K_isUsed_20 : decode b_K_isUsed 20 = .ok (.iconst 1, 1) := by decide +kernel
theorem d_K_isUsed_21 : decode b_K_isUsed 21 = .ok (.ireturn, 1) := by decide +kernel
theorem d_K_isUsed_22 : decode b_K_isUsed 22 = .ok (.iinc 2 1, 3) := by decide +kernel
theorem d_K_isUsed_25 : decode b_K_isUsed 25 = .ok (.goto (-23), 3) := by decide +kernel
theorem d_K_isUsed_28 : decode b_K_isUsed 28 = .ok (.iconst 0, 1) := by decide +kernel
theorem d_K_isUsed_29 : decode b_K_isUsed 29 = .ok (.ireturn, 1) := by decide +kernel
abbrev b_K_lastYear : ByteArray := prog_5_method_5_code
abbrev y_K_lastYear : MethodName := ⟨"OldBeams$Looks", "lastYear", "()I"⟩
theorem d_K_lastYear_0 : decode b_K_lastYear 0 = .ok (.aload_n 0, 1) := by decide +kernel
theorem d_K_lastYear_1 : decode b_K_lastYear 1 = .ok (.getfield 39, 3) := by decide +kernel
theorem d_K_lastYear_4 : decode b_K_lastYear 4 = .ok (.ifCond .le 17, 3) := by decide +kernel
theorem d_K_lastYear_7 : decode b_K_lastYear 7 = .ok (.aload_n 0, 1) := by decide +kernel
theorem d_K_lastYear_8 : decode b_K_lastYear 8 = .ok (.getfield 29, 3) := by decide +kernel
theorem d_K_lastYear_11 : decode b_K_lastYear 11 = .ok (.aload_n 0, 1) := by decide +kernel
theorem d_K_lastYear_12 : decode b_K_lastYear 12 = .ok (.getfield 39, 3) := by decide +kernel
theorem d_K_lastYear_15 : decode b_K_lastYear 15 = .ok (.iconst 1, 1) := by decide +kernel
theorem d_K_lastYear_16 : decode b_K_lastYear 16 = .ok (.isub, 1) := by decide +kernel
theorem d_K_lastYear_17 : decode b_K_lastYear 17 = .ok (.iaload, 1) := by decide +kernel
theorem d_K_lastYear_18 : decode b_K_lastYear 18 = .ok (.goto 4, 3) := by decide +kernel
theorem d_K_lastYear_21 : decode b_K_lastYear 21 = .ok (.iconst 0, 1) := by decide +kernel
theorem d_K_lastYear_22 : decode b_K_lastYear 22 = .ok (.ireturn, 1) := by decide +kernel
abbrev b_K_addLook : ByteArray := prog_5_method_6_code
abbrev y_K_addLook : MethodName := ⟨"OldBeams$Looks", "addLook", "(IIII)I"⟩
theorem d_K_addLook_0 : decode b_K_addLook 0 = .ok (.aload_n 0, 1) := by decide +kernel
theorem d_K_addLook_1 : decode b_K_addLook 1 = .ok (.getfield 39, 3) := by decide +kernel
theorem d_K_addLook_4 : decode b_K_addLook 4 = .ok (.istore 5, 2) := by decide +kernel
theorem d_K_addLook_6 : decode b_K_addLook 6 = .ok (.aload_n 0, 1) := by decide +kernel
theorem d_K_addLook_7 : decode b_K_addLook 7 = .ok (.getfield 19, 3) := by decide +kernel
theorem d_K_addLook_10 : decode b_K_addLook 10 = .ok (.iload 5, 2) := by decide +kernel
theorem d_K_addLook_12 : decode b_K_addLook 12 = .ok (.iload_n 1, 1) := by decide +kernel
theorem d_K_addLook_13 : decode b_K_addLook 13 = .ok (.iastore, 1) := by decide +kernel
theorem d_K_addLook_14 : decode b_K_addLook 14 = .ok (.aload_n 0, 1) := by decide +kernel
theorem d_K_addLook_15 : decode b_K_addLook 15 = .ok (.getfield 23, 3) := by decide +kernel
theorem d_K_addLook_18 : decode b_K_addLook 18 = .ok (.iload 5, 2) := by decide +kernel
theorem d_K_addLook_20 : decode b_K_addLook 20 = .ok (.iload_n 2, 1) := by decide +kernel
theorem d_K_addLook_21 : decode b_K_addLook 21 = .ok (.iastore, 1) := by decide +kernel
theorem d_K_addLook_22 : decode b_K_addLook 22 = .ok (.aload_n 0, 1) := by decide +kernel
theorem d_K_addLook_23 : decode b_K_addLook 23 = .ok (.getfield 26, 3) := by decide +kernel
theorem d_K_addLook_26 : decode b_K_addLook 26 = .ok (.iload 5, 2) := by decide +kernel
theorem d_K_addLook_28 : decode b_K_addLook 28 = .ok (.iload_n 3, 1) := by decide +kernel
theorem d_K_addLook_29 : decode b_K_addLook 29 = .ok (.iastore, 1) := by decide +kernel
theorem d_K_addLook_30 : decode b_K_addLook 30 = .ok (.aload_n 0, 1) := by decide +kernel
theorem d_K_addLook_31 : decode b_K_addLook 31 = .ok (.getfield 29, 3) := by decide +kernel
theorem d_K_addLook_34 : decode b_K_addLook 34 = .ok (.iload 5, 2) := by decide +kernel
theorem d_K_addLook_36 : decode b_K_addLook 36 = .ok (.iload 4, 2) := by decide +kernel
theorem d_K_addLook_38 : decode b_K_addLook 38 = .ok (.iastore, 1) := by decide +kernel
theorem d_K_addLook_39 : decode b_K_addLook 39 = .ok (.aload_n 0, 1) := by decide +kernel
theorem d_K_addLook_40 : decode b_K_addLook 40 = .ok (.iload 5, 2) := by decide +kernel
theorem d_K_addLook_42 : decode b_K_addLook 42 = .ok (.iconst 1, 1) := by decide +kernel
theorem d_K_addLook_43 : decode b_K_addLook 43 = .ok (.iadd, 1) := by decide +kernel
theorem d_K_addLook_44 : decode b_K_addLook 44 = .ok (.putfield 39, 3) := by decide +kernel
theorem d_K_addLook_47 : decode b_K_addLook 47 = .ok (.iload 5, 2) := by decide +kernel
theorem d_K_addLook_49 : decode b_K_addLook 49 = .ok (.ireturn, 1) := by decide +kernel
abbrev b_K_reckonOdds : ByteArray := prog_5_method_7_code
abbrev y_K_reckonOdds : MethodName := ⟨"OldBeams$Looks", "reckonOdds", "(II)I"⟩
theorem d_K_reckonOdds_0 : decode b_K_reckonOdds 0 = .ok (.iconst 0, 1) := by decide +kernel
theorem d_K_reckonOdds_1 : decode b_K_reckonOdds 1 = .ok (.istore_n 3, 1) := by decide +kernel
theorem d_K_reckonOdds_2 : decode b_K_reckonOdds 2 = .ok (.iload_n 3, 1) := by decide +kernel
theorem d_K_reckonOdds_3 : decode b_K_reckonOdds 3 = .ok (.bipush 11, 2) := by decide +kernel
theorem d_K_reckonOdds_5 : decode b_K_reckonOdds 5 = .ok (.if_icmp .ge 24, 3) := by decide +kernel
theorem d_K_reckonOdds_8 : decode b_K_reckonOdds 8 = .ok (.aload_n 0, 1) := by decide +kernel
theorem d_K_reckonOdds_9 : decode b_K_reckonOdds 9 = .ok (.getfield 32, 3) := by decide +kernel
theorem d_K_reckonOdds_12 : decode b_K_reckonOdds 12 = .ok (.iload_n 3, 1) := by decide +kernel
theorem d_K_reckonOdds_13 : decode b_K_reckonOdds 13 = .ok (.aload_n 0, 1) := by decide +kernel
theorem d_K_reckonOdds_14 : decode b_K_reckonOdds 14 = .ok (.getfield 11, 3) := by decide +kernel
theorem d_K_reckonOdds_17 : decode b_K_reckonOdds 17 = .ok (.iload_n 1, 1) := by decide +kernel
theorem d_K_reckonOdds_18 : decode b_K_reckonOdds 18 = .ok (.aaload, 1) := by decide +kernel
theorem d_K_reckonOdds_19 : decode b_K_reckonOdds 19 = .ok (.iload_n 3, 1) := by decide +kernel
theorem d_K_reckonOdds_20 : decode b_K_reckonOdds 20 = .ok (.iaload, 1) := by decide +kernel
theorem d_K_reckonOdds_21 : decode b_K_reckonOdds 21 = .ok (.i2l, 1) := by decide +kernel
theorem d_K_reckonOdds_22 : decode b_K_reckonOdds 22 = .ok (.lastore, 1) := by decide +kernel
theorem d_K_reckonOdds_23 : decode b_K_reckonOdds 23 = .ok (.iinc 3 1, 3) := by decide +kernel
theorem d_K_reckonOdds_26 : decode b_K_reckonOdds 26 = .ok (.goto (-24), 3) := by decide +kernel
theorem d_K_reckonOdds_29 : decode b_K_reckonOdds 29 = .ok (.ldc 43, 2) := by decide +kernel
theorem d_K_reckonOdds_31 : decode b_K_reckonOdds 31 = .ok (.istore_n 3, 1) := by decide +kernel
theorem d_K_reckonOdds_32 : decode b_K_reckonOdds 32 = .ok (.iconst 0, 1) := by decide +kernel
theorem d_K_reckonOdds_33 : decode b_K_reckonOdds 33 = .ok (.istore 4, 2) := by decide +kernel
theorem d_K_reckonOdds_35 : decode b_K_reckonOdds 35 = .ok (.iload 4, 2) := by decide +kernel
theorem d_K_reckonOdds_37 : decode b_K_reckonOdds 37 = .ok (.aload_n 0, 1) := by decide +kernel
theorem d_K_reckonOdds_38 : decode b_K_reckonOdds 38 = .ok (.getfield 39, 3) := by decide +kernel
theorem d_K_reckonOdds_41 : decode b_K_reckonOdds 41 = .ok (.if_icmp .ge 68, 3) := by decide +kernel
theorem d_K_reckonOdds_44 : decode b_K_reckonOdds 44 = .ok (.aload_n 0, 1) := by decide +kernel
theorem d_K_reckonOdds_45 : decode b_K_reckonOdds 45 = .ok (.getfield 19, 3) := by decide +kernel
theorem d_K_reckonOdds_48 : decode b_K_reckonOdds 48 = .ok (.iload 4, 2) := by decide +kernel
theorem d_K_reckonOdds_50 : decode b_K_reckonOdds 50 = .ok (.iaload, 1) := by decide +kernel
theorem d_K_reckonOdds_51 : decode b_K_reckonOdds 51 = .ok (.iload_n 1, 1) := by decide +kernel
theorem d_K_reckonOdds_52 : decode b_K_reckonOdds 52 = .ok (.if_icmp .ne 51, 3) := by decide +kernel
theorem d_K_reckonOdds_55 : decode b_K_reckonOdds 55 = .ok (.aload_n 0, 1) := by decide +kernel
theorem d_K_reckonOdds_56 : decode b_K_reckonOdds 56 = .ok (.getfield 29, 3) := by decide +kernel
theorem d_K_reckonOdds_59 : decode b_K_reckonOdds 59 = .ok (.iload 4, 2) := by decide +kernel
theorem d_K_reckonOdds_61 : decode b_K_reckonOdds 61 = .ok (.iaload, 1) := by decide +kernel
theorem d_K_reckonOdds_62 : decode b_K_reckonOdds 62 = .ok (.iload_n 2, 1) := by decide +kernel
theorem d_K_reckonOdds_63 : decode b_K_reckonOdds 63 = .ok (.if_icmp .le 6, 3) := by decide +kernel
theorem d_K_reckonOdds_66 : decode b_K_reckonOdds 66 = .ok (.goto 37, 3) := by decide +kernel
theorem d_K_reckonOdds_69 : decode b_K_reckonOdds 69 = .ok (.aload_n 0, 1) := by decide +kernel
theorem d_K_reckonOdds_70 : decode b_K_reckonOdds 70 = .ok (.aload_n 0, 1) := by decide +kernel
theorem d_K_reckonOdds_71 : decode b_K_reckonOdds 71 = .ok (.getfield 23, 3) := by decide +kernel
theorem d_K_reckonOdds_74 : decode b_K_reckonOdds 74 = .ok (.iload 4, 2) := by decide +kernel
theorem d_K_reckonOdds_76 : decode b_K_reckonOdds 76 = .ok (.iaload, 1) := by decide +kernel
theorem d_K_reckonOdds_77 : decode b_K_reckonOdds 77 = .ok (.aload_n 0, 1) := by decide +kernel
theorem d_K_reckonOdds_78 : decode b_K_reckonOdds 78 = .ok (.getfield 26, 3) := by decide +kernel
theorem d_K_reckonOdds_81 : decode b_K_reckonOdds 81 = .ok (.iload 4, 2) := by decide +kernel
theorem d_K_reckonOdds_83 : decode b_K_reckonOdds 83 = .ok (.iaload, 1) := by decide +kernel
theorem d_K_reckonOdds_84 : decode b_K_reckonOdds 84 = .ok (.invokevirtual 44, 3) := by decide +kernel
theorem d_K_reckonOdds_87 : decode b_K_reckonOdds 87 = .ok (.istore 5, 2) := by decide +kernel
theorem d_K_reckonOdds_89 : decode b_K_reckonOdds 89 = .ok (.iload 5, 2) := by decide +kernel
theorem d_K_reckonOdds_91 : decode b_K_reckonOdds 91 = .ok (.ifCond .ne 12, 3) := by decide +kernel
theorem d_K_reckonOdds_94 : decode b_K_reckonOdds 94 = .ok (.iload_n 3, 1) := by decide +kernel
theorem d_K_reckonOdds_95 : decode b_K_reckonOdds 95 = .ok (.ldc 43, 2) := by decide +kernel
theorem d_K_reckonOdds_97 : decode b_K_reckonOdds 97 = .ok (.if_icmp .ne 6, 3) := by decide +kernel
theorem d_K_reckonOdds_100 : decode b_K_reckonOdds 100 = .ok (.iload 4, 2) := by decide +kernel
theorem d_K_reckonOdds_102 : decode b_K_reckonOdds 102 = .ok (.istore_n 3, 1) := by decide +kernel
theorem d_K_reckonOdds_103 : decode b_K_reckonOdds 103 = .ok (.iinc 4 1, 3) := by decide +kernel
theorem d_K_reckonOdds_106 : decode b_K_reckonOdds 106 = .ok (.goto (-71), 3) := by decide +kernel
theorem d_K_reckonOdds_109 : decode b_K_reckonOdds 109 = .ok (.iload_n 3, 1) := by decide +kernel
theorem d_K_reckonOdds_110 : decode b_K_reckonOdds 110 = .ok (.ireturn, 1) := by decide +kernel
abbrev b_K_applyLook : ByteArray := prog_5_method_8_code
abbrev y_K_applyLook : MethodName := ⟨"OldBeams$Looks", "applyLook", "(II)Z"⟩
theorem d_K_applyLook_0 : decode b_K_applyLook 0 = .ok (.lconst 0, 1) := by decide +kernel
theorem d_K_applyLook_1 : decode b_K_applyLook 1 = .ok (.lstore_n 3, 1) := by decide +kernel
theorem d_K_applyLook_2 : decode b_K_applyLook 2 = .ok (.iconst 0, 1) := by decide +kernel
theorem d_K_applyLook_3 : decode b_K_applyLook 3 = .ok (.istore 5, 2) := by decide +kernel
theorem d_K_applyLook_5 : decode b_K_applyLook 5 = .ok (.iload 5, 2) := by decide +kernel
theorem d_K_applyLook_7 : decode b_K_applyLook 7 = .ok (.bipush 11, 2) := by decide +kernel
theorem d_K_applyLook_9 : decode b_K_applyLook 9 = .ok (.if_icmp .ge 63, 3) := by decide +kernel
theorem d_K_applyLook_12 : decode b_K_applyLook 12 = .ok (.aload_n 0, 1) := by decide +kernel
theorem d_K_applyLook_13 : decode b_K_applyLook 13 = .ok (.getfield 16, 3) := by decide +kernel
theorem d_K_applyLook_16 : decode b_K_applyLook 16 = .ok (.iload_n 1, 1) := by decide +kernel
theorem d_K_applyLook_17 : decode b_K_applyLook 17 = .ok (.aaload, 1) := by decide +kernel
theorem d_K_applyLook_18 : decode b_K_applyLook 18 = .ok (.iload 5, 2) := by decide +kernel
theorem d_K_applyLook_20 : decode b_K_applyLook 20 = .ok (.iaload, 1) := by decide +kernel
theorem d_K_applyLook_21 : decode b_K_applyLook 21 = .ok (.istore 6, 2) := by decide +kernel
theorem d_K_applyLook_23 : decode b_K_applyLook 23 = .ok (.aload_n 0, 1) := by decide +kernel
theorem d_K_applyLook_24 : decode b_K_applyLook 24 = .ok (.getfield 36, 3) := by decide +kernel
theorem d_K_applyLook_27 : decode b_K_applyLook 27 = .ok (.iload 5, 2) := by decide +kernel
theorem d_K_applyLook_29 : decode b_K_applyLook 29 = .ok (.aload_n 0, 1) := by decide +kernel
theorem d_K_applyLook_30 : decode b_K_applyLook 30 = .ok (.getfield 32, 3) := by decide +kernel
theorem d_K_applyLook_33 : decode b_K_applyLook 33 = .ok (.iload 5, 2) := by decide +kernel
theorem d_K_applyLook_35 : decode b_K_applyLook 35 = .ok (.laload, 1) := by decide +kernel
theorem d_K_applyLook_36 : decode b_K_applyLook 36 = .ok (.iload_n 2, 1) := by decide +kernel
theorem d_K_applyLook_37 : decode b_K_applyLook 37 = .ok (.iconst 1, 1) := by decide +kernel
theorem d_K_applyLook_38 : decode b_K_applyLook 38 = .ok (.if_icmp .ne 8, 3) := by decide +kernel
theorem d_K_applyLook_41 : decode b_K_applyLook 41 = .ok (.iload 6, 2) := by decide +kernel
theorem d_K_applyLook_43 : decode b_K_applyLook 43 = .ok (.goto 8, 3) := by decide +kernel
theorem d_K_applyLook_46 : decode b_K_applyLook 46 = .ok (.bipush 9, 2) := by decide +kernel
theorem d_K_applyLook_48 : decode b_K_applyLook 48 = .ok (.iload 6, 2) := by decide +kernel
theorem d_K_applyLook_50 : decode b_K_applyLook 50 = .ok (.isub, 1) := by decide +kernel
theorem d_K_applyLook_51 : decode b_K_applyLook 51 = .ok (.i2l, 1) := by decide +kernel
theorem d_K_applyLook_52 : decode b_K_applyLook 52 = .ok (.lmul, 1) := by decide +kernel
theorem d_K_applyLook_53 : decode b_K_applyLook 53 = .ok (.lastore, 1) := by decide +kernel
theorem d_K_applyLook_54 : decode b_K_applyLook 54 = .ok (.lload_n 3, 1) := by decide +kernel
theorem d_K_applyLook_55 : decode b_K_applyLook 55 = .ok (.aload_n 0, 1) := by decide +kernel
theorem d_K_applyLook_56 : decode b_K_applyLook 56 = .ok (.getfield 36, 3) := by decide +kernel
theorem d_K_applyLook_59 : decode b_K_applyLook 59 = .ok (.iload 5, 2) := by decide +kernel
theorem d_K_applyLook_61 : decode b_K_applyLook 61 = .ok (.laload, 1) := by decide +kernel
theorem d_K_applyLook_62 : decode b_K_applyLook 62 = .ok (.invokestatic 48, 3) := by decide +kernel
theorem d_K_applyLook_65 : decode b_K_applyLook 65 = .ok (.lstore_n 3, 1) := by decide +kernel
theorem d_K_applyLook_66 : decode b_K_applyLook 66 = .ok (.iinc 5 1, 3) := by decide +kernel
theorem d_K_applyLook_69 : decode b_K_applyLook 69 = .ok (.goto (-64), 3) := by decide +kernel
theorem d_K_applyLook_72 : decode b_K_applyLook 72 = .ok (.lload_n 3, 1) := by decide +kernel
theorem d_K_applyLook_73 : decode b_K_applyLook 73 = .ok (.lconst 0, 1) := by decide +kernel
theorem d_K_applyLook_74 : decode b_K_applyLook 74 = .ok (.lcmp, 1) := by decide +kernel
theorem d_K_applyLook_75 : decode b_K_applyLook 75 = .ok (.ifCond .ne 5, 3) := by decide +kernel
theorem d_K_applyLook_78 : decode b_K_applyLook 78 = .ok (.iconst 0, 1) := by decide +kernel
theorem d_K_applyLook_79 : decode b_K_applyLook 79 = .ok (.ireturn, 1) := by decide +kernel
theorem d_K_applyLook_80 : decode b_K_applyLook 80 = .ok (.iconst 0, 1) := by decide +kernel
theorem d_K_applyLook_81 : decode b_K_applyLook 81 = .ok (.istore 5, 2) := by decide +kernel
theorem d_K_applyLook_83 : decode b_K_applyLook 83 = .ok (.iload 5, 2) := by decide +kernel
theorem d_K_applyLook_85 : decode b_K_applyLook 85 = .ok (.bipush 11, 2) := by decide +kernel
theorem d_K_applyLook_87 : decode b_K_applyLook 87 = .ok (.if_icmp .ge 25, 3) := by decide +kernel
theorem d_K_applyLook_90 : decode b_K_applyLook 90 = .ok (.aload_n 0, 1) := by decide +kernel
theorem d_K_applyLook_91 : decode b_K_applyLook 91 = .ok (.getfield 32, 3) := by decide +kernel
theorem d_K_applyLook_94 : decode b_K_applyLook 94 = .ok (.iload 5, 2) := by decide +kernel
theorem d_K_applyLook_96 : decode b_K_applyLook 96 = .ok (.aload_n 0, 1) := by decide +kernel
theorem d_K_applyLook_97 : decode b_K_applyLook 97 = .ok (.getfield 36, 3) := by decide +kernel
theorem d_K_applyLook_100 : decode b_K_applyLook 100 = .ok (.iload 5, 2) := by decide +kernel
theorem d_K_applyLook_102 : decode b_K_applyLook 102 = .ok (.laload, 1) := by decide +kernel
theorem d_K_applyLook_103 : decode b_K_applyLook 103 = .ok (.lload_n 3, 1) := by decide +kernel
theorem d_K_applyLook_104 : decode b_K_applyLook 104 = .ok (.ldiv, 1) := by decide +kernel
theorem d_K_applyLook_105 : decode b_K_applyLook 105 = .ok (.lastore, 1) := by decide +kernel
theorem d_K_applyLook_106 : decode b_K_applyLook 106 = .ok (.iinc 5 1, 3) := by decide +kernel
theorem d_K_applyLook_109 : decode b_K_applyLook 109 = .ok (.goto (-26), 3) := by decide +kernel
theorem d_K_applyLook_112 : decode b_K_applyLook 112 = .ok (.iconst 1, 1) := by decide +kernel
theorem d_K_applyLook_113 : decode b_K_applyLook 113 = .ok (.ireturn, 1) := by decide +kernel
abbrev b_Q_common : ByteArray := prog_3_method_6_code
abbrev y_Q_common : MethodName := ⟨"OldBeams$Fraction", "common", "(JJ)J"⟩
theorem d_Q_common_0 : decode b_Q_common 0 = .ok (.lload_n 0, 1) := by decide +kernel
theorem d_Q_common_1 : decode b_Q_common 1 = .ok (.lstore 4, 2) := by decide +kernel
theorem d_Q_common_3 : decode b_Q_common 3 = .ok (.lload_n 2, 1) := by decide +kernel
theorem d_Q_common_4 : decode b_Q_common 4 = .ok (.lstore 6, 2) := by decide +kernel
theorem d_Q_common_6 : decode b_Q_common 6 = .ok (.iconst 0, 1) := by decide +kernel
theorem d_Q_common_7 : decode b_Q_common 7 = .ok (.istore 8, 2) := by decide +kernel
theorem d_Q_common_9 : decode b_Q_common 9 = .ok (.iload 8, 2) := by decide +kernel
theorem d_Q_common_11 : decode b_Q_common 11 = .ok (.sipush 200, 3) := by decide +kernel
theorem d_Q_common_14 : decode b_Q_common 14 = .ok (.if_icmp .ge 31, 3) := by decide +kernel
theorem d_Q_common_17 : decode b_Q_common 17 = .ok (.lload 6, 2) := by decide +kernel
theorem d_Q_common_19 : decode b_Q_common 19 = .ok (.lconst 0, 1) := by decide +kernel
theorem d_Q_common_20 : decode b_Q_common 20 = .ok (.lcmp, 1) := by decide +kernel
theorem d_Q_common_21 : decode b_Q_common 21 = .ok (.ifCond .eq 24, 3) := by decide +kernel
theorem d_Q_common_24 : decode b_Q_common 24 = .ok (.lload 4, 2) := by decide +kernel
theorem d_Q_common_26 : decode b_Q_common 26 = .ok (.lload 6, 2) := by decide +kernel
theorem d_Q_common_28 : decode b_Q_common 28 = .ok (.lrem, 1) := by decide +kernel
theorem d_Q_common_29 : decode b_Q_common 29 = .ok (.lstore 9, 2) := by decide +kernel
theorem d_Q_common_31 : decode b_Q_common 31 = .ok (.lload 6, 2) := by decide +kernel
theorem d_Q_common_33 : decode b_Q_common 33 = .ok (.lstore 4, 2) := by decide +kernel
theorem d_Q_common_35 : decode b_Q_common 35 = .ok (.lload 9, 2) := by decide +kernel
theorem d_Q_common_37 : decode b_Q_common 37 = .ok (.lstore 6, 2) := by decide +kernel
theorem d_Q_common_39 : decode b_Q_common 39 = .ok (.iinc 8 1, 3) := by decide +kernel
theorem d_Q_common_42 : decode b_Q_common 42 = .ok (.goto (-33), 3) := by decide +kernel
theorem d_Q_common_45 : decode b_Q_common 45 = .ok (.lload 4, 2) := by decide +kernel
theorem d_Q_common_47 : decode b_Q_common 47 = .ok (.lreturn, 1) := by decide +kernel
abbrev b_K_knownShare : ByteArray := prog_5_method_10_code
abbrev y_K_knownShare : MethodName := ⟨"OldBeams$Looks", "knownShare", "(IIZ)I"⟩
theorem d_K_knownShare_0 : decode b_K_knownShare 0 = .ok (.aload_n 0, 1) := by decide +kernel
theorem d_K_knownShare_1 : decode b_K_knownShare 1 = .ok (.iload_n 1, 1) := by decide +kernel
theorem d_K_knownShare_2 : decode b_K_knownShare 2 = .ok (.iload_n 2, 1) := by decide +kernel
theorem d_K_knownShare_3 : decode b_K_knownShare 3 = .ok (.invokevirtual 54, 3) := by decide +kernel
theorem d_K_knownShare_6 : decode b_K_knownShare 6 = .ok (.pop, 1) := by decide +kernel
theorem d_K_knownShare_7 : decode b_K_knownShare 7 = .ok (.iconst 0, 1) := by decide +kernel
theorem d_K_knownShare_8 : decode b_K_knownShare 8 = .ok (.istore 4, 2) := by decide +kernel
theorem d_K_knownShare_10 : decode b_K_knownShare 10 = .ok (.bipush 10, 2) := by decide +kernel
theorem d_K_knownShare_12 : decode b_K_knownShare 12 = .ok (.istore 5, 2) := by decide +kernel
theorem d_K_knownShare_14 : decode b_K_knownShare 14 = .ok (.iload 5, 2) := by decide +kernel
theorem d_K_knownShare_16 : decode b_K_knownShare 16 = .ok (.ifCond .lt 35, 3) := by decide +kernel
theorem d_K_knownShare_19 : decode b_K_knownShare 19 = .ok (.aload_n 0, 1) := by decide +kernel
theorem d_K_knownShare_20 : decode b_K_knownShare 20 = .ok (.getfield 32, 3) := by decide +kernel
theorem d_K_knownShare_23 : decode b_K_knownShare 23 = .ok (.iload 5, 2) := by decide +kernel
theorem d_K_knownShare_25 : decode b_K_knownShare 25 = .ok (.laload, 1) := by decide +kernel
theorem d_K_knownShare_26 : decode b_K_knownShare 26 = .ok (.lconst 0, 1) := by decide +kernel
theorem d_K_knownShare_27 : decode b_K_knownShare 27 = .ok (.lcmp, 1) := by decide +kernel
theorem d_K_knownShare_28 : decode b_K_knownShare 28 = .ok (.ifCond .ne 6, 3) := by decide +kernel
theorem d_K_knownShare_31 : decode b_K_knownShare 31 = .ok (.goto 14, 3) := by decide +kernel
theorem d_K_knownShare_34 : decode b_K_knownShare 34 = .ok (.iload 5, 2) := by decide +kernel
theorem d_K_knownShare_36 : decode b_K_knownShare 36 = .ok (.istore 4, 2) := by decide +kernel
theorem d_K_knownShare_38 : decode b_K_knownShare 38 = .ok (.iload_n 3, 1) := by decide +kernel
theorem d_K_knownShare_39 : decode b_K_knownShare 39 = .ok (.ifCond .eq 6, 3) := by decide +kernel
theorem d_K_knownShare_42 : decode b_K_knownShare 42 = .ok (.goto 9, 3) := by decide +kernel
theorem d_K_knownShare_45 : decode b_K_knownShare 45 = .ok (.iinc 5 (-1), 3) := by decide +kernel
theorem d_K_knownShare_48 : decode b_K_knownShare 48 = .ok (.goto (-34), 3) := by decide +kernel
theorem d_K_knownShare_51 : decode b_K_knownShare 51 = .ok (.iload 4, 2) := by decide +kernel
theorem d_K_knownShare_53 : decode b_K_knownShare 53 = .ok (.ireturn, 1) := by decide +kernel
abbrev b_F_shareLeft : ByteArray := prog_4_method_19_code
abbrev y_F_shareLeft : MethodName := ⟨"OldBeams$Frame", "shareLeft", "(III)I"⟩
theorem d_F_shareLeft_0 : decode b_F_shareLeft 0 = .ok (.aload_n 0, 1) := by decide +kernel
theorem d_F_shareLeft_1 : decode b_F_shareLeft 1 = .ok (.getfield 18, 3) := by decide +kernel
theorem d_F_shareLeft_4 : decode b_F_shareLeft 4 = .ok (.iload_n 1, 1) := by decide +kernel
theorem d_F_shareLeft_5 : decode b_F_shareLeft 5 = .ok (.aaload, 1) := by decide +kernel
theorem d_F_shareLeft_6 : decode b_F_shareLeft 6 = .ok (.astore 4, 2) := by decide +kernel
theorem d_F_shareLeft_8 : decode b_F_shareLeft 8 = .ok (.aload_n 0, 1) := by decide +kernel
theorem d_F_shareLeft_9 : decode b_F_shareLeft 9 = .ok (.getfield 11, 3) := by decide +kernel
theorem d_F_shareLeft_12 : decode b_F_shareLeft 12 = .ok (.aload 4, 2) := by decide +kernel
theorem d_F_shareLeft_14 : decode b_F_shareLeft 14 = .ok (.getfield 129, 3) := by decide +kernel
theorem d_F_shareLeft_17 : decode b_F_shareLeft 17 = .ok (.aaload, 1) := by decide +kernel
theorem d_F_shareLeft_18 : decode b_F_shareLeft 18 = .ok (.aload 4, 2) := by decide +kernel
theorem d_F_shareLeft_20 : decode b_F_shareLeft 20 = .ok (.getfield 149, 3) := by decide +kernel
theorem d_F_shareLeft_23 : decode b_F_shareLeft 23 = .ok (.ifCond .eq 7, 3) := by decide +kernel
theorem d_F_shareLeft_26 : decode b_F_shareLeft 26 = .ok (.iconst 2, 1) := by decide +kernel
theorem d_F_shareLeft_27 : decode b_F_shareLeft 27 = .ok (.goto 4, 3) := by decide +kernel
theorem d_F_shareLeft_30 : decode b_F_shareLeft 30 = .ok (.iconst 1, 1) := by decide +kernel
theorem d_F_shareLeft_31 : decode b_F_shareLeft 31 = .ok (.iaload, 1) := by decide +kernel
theorem d_F_shareLeft_32 : decode b_F_shareLeft 32 = .ok (.istore 5, 2) := by decide +kernel
theorem d_F_shareLeft_34 : decode b_F_shareLeft 34 = .ok (.iconst 0, 1) := by decide +kernel
theorem d_F_shareLeft_35 : decode b_F_shareLeft 35 = .ok (.iload_n 2, 1) := by decide +kernel
theorem d_F_shareLeft_36 : decode b_F_shareLeft 36 = .ok (.iload_n 3, 1) := by decide +kernel
theorem d_F_shareLeft_37 : decode b_F_shareLeft 37 = .ok (.iload 5, 2) := by decide +kernel
theorem d_F_shareLeft_39 : decode b_F_shareLeft 39 = .ok (.imul, 1) := by decide +kernel
theorem d_F_shareLeft_40 : decode b_F_shareLeft 40 = .ok (.bipush 10, 2) := by decide +kernel
theorem d_F_shareLeft_42 : decode b_F_shareLeft 42 = .ok (.idiv, 1) := by decide +kernel
theorem d_F_shareLeft_43 : decode b_F_shareLeft 43 = .ok (.isub, 1) := by decide +kernel
theorem d_F_shareLeft_44 : decode b_F_shareLeft 44 = .ok (.invokestatic 153, 3) := by decide +kernel
theorem d_F_shareLeft_47 : decode b_F_shareLeft 47 = .ok (.ireturn, 1) := by decide +kernel
abbrev b_Ma_max : ByteArray := prog_9_method_65_code
abbrev y_Ma_max : MethodName := ⟨"java/lang/Math", "max", "(II)I"⟩
theorem d_Ma_max_0 : decode b_Ma_max 0 = .ok (.iload_n 0, 1) := by decide +kernel
theorem d_Ma_max_1 : decode b_Ma_max 1 = .ok (.iload_n 1, 1) := by decide +kernel
theorem d_Ma_max_2 : decode b_Ma_max 2 = .ok (.if_icmp .lt 7, 3) := by decide +kernel
theorem d_Ma_max_5 : decode b_Ma_max 5 = .ok (.iload_n 0, 1) := by decide +kernel
theorem d_Ma_max_6 : decode b_Ma_max 6 = .ok (.goto 4, 3) := by decide +kernel
theorem d_Ma_max_9 : decode b_Ma_max 9 = .ok (.iload_n 1, 1) := by decide +kernel
theorem d_Ma_max_10 : decode b_Ma_max 10 = .ok (.ireturn, 1) := by decide +kernel
abbrev b_K_allOdds : ByteArray := prog_5_method_9_code
abbrev y_K_allOdds : MethodName := ⟨"OldBeams$Looks", "allOdds", "()J"⟩
theorem d_K_allOdds_0 : decode b_K_allOdds 0 = .ok (.lconst 0, 1) := by decide +kernel
theorem d_K_allOdds_1 : decode b_K_allOdds 1 = .ok (.lstore_n 1, 1) := by decide +kernel
theorem d_K_allOdds_2 : decode b_K_allOdds 2 = .ok (.iconst 0, 1) := by decide +kernel
theorem d_K_allOdds_3 : decode b_K_allOdds 3 = .ok (.istore_n 3, 1) := by decide +kernel
theorem d_K_allOdds_4 : decode b_K_allOdds 4 = .ok (.iload_n 3, 1) := by decide +kernel
theorem d_K_allOdds_5 : decode b_K_allOdds 5 = .ok (.bipush 11, 2) := by decide +kernel
theorem d_K_allOdds_7 : decode b_K_allOdds 7 = .ok (.if_icmp .ge 18, 3) := by decide +kernel
theorem d_K_allOdds_10 : decode b_K_allOdds 10 = .ok (.lload_n 1, 1) := by decide +kernel
theorem d_K_allOdds_11 : decode b_K_allOdds 11 = .ok (.aload_n 0, 1) := by decide +kernel
theorem d_K_allOdds_12 : decode b_K_allOdds 12 = .ok (.getfield 32, 3) := by decide +kernel
theorem d_K_allOdds_15 : decode b_K_allOdds 15 = .ok (.iload_n 3, 1) := by decide +kernel
theorem d_K_allOdds_16 : decode b_K_allOdds 16 = .ok (.laload, 1) := by decide +kernel
theorem d_K_allOdds_17 : decode b_K_allOdds 17 = .ok (.ladd, 1) := by decide +kernel
theorem d_K_allOdds_18 : decode b_K_allOdds 18 = .ok (.lstore_n 1, 1) := by decide +kernel
theorem d_K_allOdds_19 : decode b_K_allOdds 19 = .ok (.iinc 3 1, 3) := by decide +kernel
theorem d_K_allOdds_22 : decode b_K_allOdds 22 = .ok (.goto (-18), 3) := by decide +kernel
theorem d_K_allOdds_25 : decode b_K_allOdds 25 = .ok (.lload_n 1, 1) := by decide +kernel
theorem d_K_allOdds_26 : decode b_K_allOdds 26 = .ok (.lreturn, 1) := by decide +kernel
abbrev b_Q_put : ByteArray := prog_3_method_2_code
abbrev y_Q_put : MethodName := ⟨"OldBeams$Fraction", "put", "(JJ)V"⟩
theorem d_Q_put_0 : decode b_Q_put 0 = .ok (.lload_n 1, 1) := by decide +kernel
theorem d_Q_put_1 : decode b_Q_put 1 = .ok (.lload_n 3, 1) := by decide +kernel
theorem d_Q_put_2 : decode b_Q_put 2 = .ok (.invokestatic 16, 3) := by decide +kernel
theorem d_Q_put_5 : decode b_Q_put 5 = .ok (.lstore 5, 2) := by decide +kernel
theorem d_Q_put_7 : decode b_Q_put 7 = .ok (.aload_n 0, 1) := by decide +kernel
theorem d_Q_put_8 : decode b_Q_put 8 = .ok (.lload 5, 2) := by decide +kernel
theorem d_Q_put_10 : decode b_Q_put 10 = .ok (.lconst 0, 1) := by decide +kernel
theorem d_Q_put_11 : decode b_Q_put 11 = .ok (.lcmp, 1) := by decide +kernel
theorem d_Q_put_12 : decode b_Q_put 12 = .ok (.ifCond .ne 7, 3) := by decide +kernel
theorem d_Q_put_15 : decode b_Q_put 15 = .ok (.lconst 0, 1) := by decide +kernel
theorem d_Q_put_16 : decode b_Q_put 16 = .ok (.goto 7, 3) := by decide +kernel
theorem d_Q_put_19 : decode b_Q_put 19 = .ok (.lload_n 1, 1) := by decide +kernel
theorem d_Q_put_20 : decode b_Q_put 20 = .ok (.lload 5, 2) := by decide +kernel
theorem d_Q_put_22 : decode b_Q_put 22 = .ok (.ldiv, 1) := by decide +kernel
theorem d_Q_put_23 : decode b_Q_put 23 = .ok (.putfield 7, 3) := by decide +kernel
theorem d_Q_put_26 : decode b_Q_put 26 = .ok (.aload_n 0, 1) := by decide +kernel
theorem d_Q_put_27 : decode b_Q_put 27 = .ok (.lload 5, 2) := by decide +kernel
theorem d_Q_put_29 : decode b_Q_put 29 = .ok (.lconst 0, 1) := by decide +kernel
theorem d_Q_put_30 : decode b_Q_put 30 = .ok (.lcmp, 1) := by decide +kernel
theorem d_Q_put_31 : decode b_Q_put 31 = .ok (.ifCond .ne 7, 3) := by decide +kernel
theorem d_Q_put_34 : decode b_Q_put 34 = .ok (.lconst 1, 1) := by decide +kernel
theorem d_Q_put_35 : decode b_Q_put 35 = .ok (.goto 7, 3) := by decide +kernel
theorem d_Q_put_38 : decode b_Q_put 38 = .ok (.lload_n 3, 1) := by decide +kernel
theorem d_Q_put_39 : decode b_Q_put 39 = .ok (.lload 5, 2) := by decide +kernel
theorem d_Q_put_41 : decode b_Q_put 41 = .ok (.ldiv, 1) := by decide +kernel
theorem d_Q_put_42 : decode b_Q_put 42 = .ok (.putfield 13, 3) := by decide +kernel
theorem d_Q_put_45 : decode b_Q_put 45 = .ok (.return_, 1) := by decide +kernel
abbrev b_Q_part : ByteArray := prog_3_method_4_code
abbrev y_Q_part : MethodName := ⟨"OldBeams$Fraction", "part", "(Z)J"⟩
theorem d_Q_part_0 : decode b_Q_part 0 = .ok (.iload_n 1, 1) := by decide +kernel
theorem d_Q_part_1 : decode b_Q_part 1 = .ok (.ifCond .eq 10, 3) := by decide +kernel
theorem d_Q_part_4 : decode b_Q_part 4 = .ok (.aload_n 0, 1) := by decide +kernel
theorem d_Q_part_5 : decode b_Q_part 5 = .ok (.getfield 7, 3) := by decide +kernel
theorem d_Q_part_8 : decode b_Q_part 8 = .ok (.goto 7, 3) := by decide +kernel
theorem d_Q_part_11 : decode b_Q_part 11 = .ok (.aload_n 0, 1) := by decide +kernel
theorem d_Q_part_12 : decode b_Q_part 12 = .ok (.getfield 13, 3) := by decide +kernel
theorem d_Q_part_15 : decode b_Q_part 15 = .ok (.lreturn, 1) := by decide +kernel
abbrev b_Q_isLessThan : ByteArray := prog_3_method_5_code
abbrev y_Q_isLessThan : MethodName := ⟨"OldBeams$Fraction", "isLessThan", "(LOldBeams$Fraction;)Z"⟩
theorem d_Q_isLessThan_0 : decode b_Q_isLessThan 0 = .ok (.aload_n 0, 1) := by decide +kernel
theorem d_Q_isLessThan_1 : decode b_Q_isLessThan 1 = .ok (.getfield 7, 3) := by decide +kernel
theorem d_Q_isLessThan_4 : decode b_Q_isLessThan 4 = .ok (.lstore_n 2, 1) := by decide +kernel
theorem d_Q_isLessThan_5 : decode b_Q_isLessThan 5 = .ok (.aload_n 0, 1) := by decide +kernel
theorem d_Q_isLessThan_6 : decode b_Q_isLessThan 6 = .ok (.getfield 13, 3) := by decide +kernel
theorem d_Q_isLessThan_9 : decode b_Q_isLessThan 9 = .ok (.lstore 4, 2) := by decide +kernel
theorem d_Q_isLessThan_11 : decode b_Q_isLessThan 11 = .ok (.aload_n 1, 1) := by decide +kernel
theorem d_Q_isLessThan_12 : decode b_Q_isLessThan 12 = .ok (.getfield 7, 3) := by decide +kernel
theorem d_Q_isLessThan_15 : decode b_Q_isLessThan 15 = .ok (.lstore 6, 2) := by decide +kernel
theorem d_Q_isLessThan_17 : decode b_Q_isLessThan 17 = .ok (.aload_n 1, 1) := by decide +kernel
theorem d_Q_isLessThan_18 : decode b_Q_isLessThan 18 = .ok (.getfield 13, 3) := by decide +kernel
theorem d_Q_isLessThan_21 : decode b_Q_isLessThan 21 = .ok (.lstore 8, 2) := by decide +kernel
theorem d_Q_isLessThan_23 : decode b_Q_isLessThan 23 = .ok (.iconst 0, 1) := by decide +kernel
theorem d_Q_isLessThan_24 : decode b_Q_isLessThan 24 = .ok (.istore 10, 2) := by decide +kernel
theorem d_Q_isLessThan_26 : decode b_Q_isLessThan 26 = .ok (.iload 10, 2) := by decide +kernel
theorem d_Q_isLessThan_28 : decode b_Q_isLessThan 28 = .ok (.sipush 200, 3) := by decide +kernel
theorem d_Q_isLessThan_31 : decode b_Q_isLessThan 31 = .ok (.if_icmp .ge 173, 3) := by decide +kernel
theorem d_Q_isLessThan_34 : decode b_Q_isLessThan 34 = .ok (.lload 4, 2) := by decide +kernel
theorem d_Q_isLessThan_36 : decode b_Q_isLessThan 36 = .ok (.lconst 0, 1) := by decide +kernel
theorem d_Q_isLessThan_37 : decode b_Q_isLessThan 37 = .ok (.lcmp, 1) := by decide +kernel
theorem d_Q_isLessThan_38 : decode b_Q_isLessThan 38 = .ok (.ifCond .le 166, 3) := by decide +kernel
theorem d_Q_isLessThan_41 : decode b_Q_isLessThan 41 = .ok (.lload 8, 2) := by decide +kernel
theorem d_Q_isLessThan_43 : decode b_Q_isLessThan 43 = .ok (.lconst 0, 1) := by decide +kernel
theorem d_Q_isLessThan_44 : decode b_Q_isLessThan 44 = .ok (.lcmp, 1) := by decide +kernel
theorem d_Q_isLessThan_45 : decode b_Q_isLessThan 45 = .ok (.ifCond .le 159, 3) := by decide +kernel
theorem d_Q_isLessThan_48 : decode b_Q_isLessThan 48 = .ok (.iload 10, 2) := by decide +kernel
theorem d_Q_isLessThan_50 : decode b_Q_isLessThan 50 = .ok (.iconst 2, 1) := by decide +kernel
theorem d_Q_isLessThan_51 : decode b_Q_isLessThan 51 = .ok (.irem, 1) := by decide +kernel
theorem d_Q_isLessThan_52 : decode b_Q_isLessThan 52 = .ok (.iconst 1, 1) := by decide +kernel
theorem d_Q_isLessThan_53 : decode b_Q_isLessThan 53 = .ok (.if_icmp .ne 7, 3) := by decide +kernel
theorem d_Q_isLessThan_56 : decode b_Q_isLessThan 56 = .ok (.iconst 1, 1) := by decide +kernel
theorem d_Q_isLessThan_57 : decode b_Q_isLessThan 57 = .ok (.goto 4, 3) := by decide +kernel
theorem d_Q_isLessThan_60 : decode b_Q_isLessThan 60 = .ok (.iconst 0, 1) := by decide +kernel
theorem d_Q_isLessThan_61 : decode b_Q_isLessThan 61 = .ok (.istore 11, 2) := by decide +kernel
theorem d_Q_isLessThan_63 : decode b_Q_isLessThan 63 = .ok (.lload_n 2, 1) := by decide +kernel
theorem d_Q_isLessThan_64 : decode b_Q_isLessThan 64 = .ok (.lload 4, 2) := by decide +kernel
theorem d_Q_isLessThan_66 : decode b_Q_isLessThan 66 = .ok (.ldiv, 1) := by decide +kernel
theorem d_Q_isLessThan_67 : decode b_Q_isLessThan 67 = .ok (.lload 6, 2) := by decide +kernel
theorem d_Q_isLessThan_69 : decode b_Q_isLessThan 69 = .ok (.lload 8, 2) := by decide +kernel
theorem d_Q_isLessThan_71 : decode b_Q_isLessThan 71 = .ok (.ldiv, 1) := by decide +kernel
theorem d_Q_isLessThan_72 : decode b_Q_isLessThan 72 = .ok (.lcmp, 1) := by decide +kernel
theorem d_Q_isLessThan_73 : decode b_Q_isLessThan 73 = .ok (.ifCond .eq 48, 3) := by decide +kernel
theorem d_Q_isLessThan_76 : decode b_Q_isLessThan 76 = .ok (.iload 11, 2) := by decide +kernel
theorem d_Q_isLessThan_78 : decode b_Q_isLessThan 78 = .ok (.ifCond .eq 24, 3) := by decide +kernel
theorem d_Q_isLessThan_81 : decode b_Q_isLessThan 81 = .ok (.lload_n 2, 1) := by decide +kernel
theorem d_Q_isLessThan_82 : decode b_Q_isLessThan 82 = .ok (.lload 4, 2) := by decide +kernel
theorem d_Q_isLessThan_84 : decode b_Q_isLessThan 84 = .ok (.ldiv, 1) := by decide +kernel
theorem d_Q_isLessThan_85 : decode b_Q_isLessThan 85 = .ok (.lload 6, 2) := by decide +kernel
theorem d_Q_isLessThan_87 : decode b_Q_isLessThan 87 = .ok (.lload 8, 2) := by decide +kernel
theorem d_Q_isLessThan_89 : decode b_Q_isLessThan 89 = .ok (.ldiv, 1) := by decide +kernel
theorem d_Q_isLessThan_90 : decode b_Q_isLessThan 90 = .ok (.lcmp, 1) := by decide +kernel
theorem d_Q_isLessThan_91 : decode b_Q_isLessThan 91 = .ok (.ifCond .le 7, 3) := by decide +kernel
theorem d_Q_isLessThan_94 : decode b_Q_isLessThan 94 = .ok (.iconst 1, 1) := by decide +kernel
theorem d_Q_isLessThan_95 : decode b_Q_isLessThan 95 = .ok (.goto 25, 3) := by decide +kernel
theorem d_Q_isLessThan_98 : decode b_Q_isLessThan 98 = .ok (.iconst 0, 1) := by decide +kernel
theorem d_Q_isLessThan_99 : decode b_Q_isLessThan 99 = .ok (.goto 21, 3) := by decide +kernel
theorem d_Q_isLessThan_102 : decode b_Q_isLessThan 102 = .ok (.lload_n 2, 1) := by decide +kernel
theorem d_Q_isLessThan_103 : decode b_Q_isLessThan 103 = .ok (.lload 4, 2) := by decide +kernel
theorem d_Q_isLessThan_105 : decode b_Q_isLessThan 105 = .ok (.ldiv, 1) := by decide +kernel
theorem d_Q_isLessThan_106 : decode b_Q_isLessThan 106 = .ok (.lload 6, 2) := by decide +kernel
theorem d_Q_isLessThan_108 : decode b_Q_isLessThan 108 = .ok (.lload 8, 2) := by decide +kernel
theorem d_Q_isLessThan_110 : decode b_Q_isLessThan 110 = .ok (.ldiv, 1) := by decide +kernel
theorem d_Q_isLessThan_111 : decode b_Q_isLessThan 111 = .ok (.lcmp, 1) := by decide +kernel
theorem d_Q_isLessThan_112 : decode b_Q_isLessThan 112 = .ok (.ifCond .ge 7, 3) := by decide +kernel
theorem d_Q_isLessThan_115 : decode b_Q_isLessThan 115 = .ok (.iconst 1, 1) := by decide +kernel
theorem d_Q_isLessThan_116 : decode b_Q_isLessThan 116 = .ok (.goto 4, 3) := by decide +kernel
theorem d_Q_isLessThan_119 : decode b_Q_isLessThan 119 = .ok (.iconst 0, 1) := by decide +kernel
theorem d_Q_isLessThan_120 : decode b_Q_isLessThan 120 = .ok (.ireturn, 1) := by decide +kernel
theorem d_Q_isLessThan_121 : decode b_Q_isLessThan 121 = .ok (.lload_n 2, 1) := by decide +kernel
theorem d_Q_isLessThan_122 : decode b_Q_isLessThan 122 = .ok (.lload 4, 2) := by decide +kernel
theorem d_Q_isLessThan_124 : decode b_Q_isLessThan 124 = .ok (.lrem, 1) := by decide +kernel
theorem d_Q_isLessThan_125 : decode b_Q_isLessThan 125 = .ok (.lstore 12, 2) := by decide +kernel
theorem d_Q_isLessThan_127 : decode b_Q_isLessThan 127 = .ok (.lload 6, 2) := by decide +kernel
theorem d_Q_isLessThan_129 : decode b_Q_isLessThan 129 = .ok (.lload 8, 2) := by decide +kernel
theorem d_Q_isLessThan_131 : decode b_Q_isLessThan 131 = .ok (.lrem, 1) := by decide +kernel
theorem d_Q_isLessThan_132 : decode b_Q_isLessThan 132 = .ok (.lstore 14, 2) := by decide +kernel
theorem d_Q_isLessThan_134 : decode b_Q_isLessThan 134 = .ok (.lload 12, 2) := by decide +kernel
theorem d_Q_isLessThan_136 : decode b_Q_isLessThan 136 = .ok (.lconst 0, 1) := by decide +kernel
theorem d_Q_isLessThan_137 : decode b_Q_isLessThan 137 = .ok (.lcmp, 1) := by decide +kernel
theorem d_Q_isLessThan_138 : decode b_Q_isLessThan 138 = .ok (.ifCond .eq 10, 3) := by decide +kernel
theorem d_Q_isLessThan_141 : decode b_Q_isLessThan 141 = .ok (.lload 14, 2) := by decide +kernel
theorem d_Q_isLessThan_143 : decode b_Q_isLessThan 143 = .ok (.lconst 0, 1) := by decide +kernel
theorem d_Q_isLessThan_144 : decode b_Q_isLessThan 144 = .ok (.lcmp, 1) := by decide +kernel
theorem d_Q_isLessThan_145 : decode b_Q_isLessThan 145 = .ok (.ifCond .ne 38, 3) := by decide +kernel
theorem d_Q_isLessThan_148 : decode b_Q_isLessThan 148 = .ok (.iload 11, 2) := by decide +kernel
theorem d_Q_isLessThan_150 : decode b_Q_isLessThan 150 = .ok (.ifCond .eq 19, 3) := by decide +kernel
theorem d_Q_isLessThan_153 : decode b_Q_isLessThan 153 = .ok (.lload 12, 2) := by decide +kernel
theorem d_Q_isLessThan_155 : decode b_Q_isLessThan 155 = .ok (.lload 14, 2) := by decide +kernel
theorem d_Q_isLessThan_157 : decode b_Q_isLessThan 157 = .ok (.lcmp, 1) := by decide +kernel
theorem d_Q_isLessThan_158 : decode b_Q_isLessThan 158 = .ok (.ifCond .le 7, 3) := by decide +kernel
theorem d_Q_isLessThan_161 : decode b_Q_isLessThan 161 = .ok (.iconst 1, 1) := by decide +kernel
theorem d_Q_isLessThan_162 : decode b_Q_isLessThan 162 = .ok (.goto 20, 3) := by decide +kernel
theorem d_Q_isLessThan_165 : decode b_Q_isLessThan 165 = .ok (.iconst 0, 1) := by decide +kernel
theorem d_Q_isLessThan_166 : decode b_Q_isLessThan 166 = .ok (.goto 16, 3) := by decide +kernel
theorem d_Q_isLessThan_169 : decode b_Q_isLessThan 169 = .ok (.lload 12, 2) := by decide +kernel
theorem d_Q_isLessThan_171 : decode b_Q_isLessThan 171 = .ok (.lload 14, 2) := by decide +kernel
theorem d_Q_isLessThan_173 : decode b_Q_isLessThan 173 = .ok (.lcmp, 1) := by decide +kernel
theorem d_Q_isLessThan_174 : decode b_Q_isLessThan 174 = .ok (.ifCond .ge 7, 3) := by decide +kernel
theorem d_Q_isLessThan_177 : decode b_Q_isLessThan 177 = .ok (.iconst 1, 1) := by decide +kernel
theorem d_Q_isLessThan_178 : decode b_Q_isLessThan 178 = .ok (.goto 4, 3) := by decide +kernel
theorem d_Q_isLessThan_181 : decode b_Q_isLessThan 181 = .ok (.iconst 0, 1) := by decide +kernel
theorem d_Q_isLessThan_182 : decode b_Q_isLessThan 182 = .ok (.ireturn, 1) := by decide +kernel
theorem d_Q_isLessThan_183 : decode b_Q_isLessThan 183 = .ok (.lload 4, 2) := by decide +kernel
theorem d_Q_isLessThan_185 : decode b_Q_isLessThan 185 = .ok (.lstore_n 2, 1) := by decide +kernel
theorem d_Q_isLessThan_186 : decode b_Q_isLessThan 186 = .ok (.lload 12, 2) := by decide +kernel
theorem d_Q_isLessThan_188 : decode b_Q_isLessThan 188 = .ok (.lstore 4, 2) := by decide +kernel
theorem d_Q_isLessThan_190 : decode b_Q_isLessThan 190 = .ok (.lload 8, 2) := by decide +kernel
theorem d_Q_isLessThan_192 : decode b_Q_isLessThan 192 = .ok (.lstore 6, 2) := by decide +kernel
theorem d_Q_isLessThan_194 : decode b_Q_isLessThan 194 = .ok (.lload 14, 2) := by decide +kernel
theorem d_Q_isLessThan_196 : decode b_Q_isLessThan 196 = .ok (.lstore 8, 2) := by decide +kernel
theorem d_Q_isLessThan_198 : decode b_Q_isLessThan 198 = .ok (.iinc 10 1, 3) := by decide +kernel
theorem d_Q_isLessThan_201 : decode b_Q_isLessThan 201 = .ok (.goto (-175), 3) := by decide +kernel
theorem d_Q_isLessThan_204 : decode b_Q_isLessThan 204 = .ok (.iconst 0, 1) := by decide +kernel
theorem d_Q_isLessThan_205 : decode b_Q_isLessThan 205 = .ok (.ireturn, 1) := by decide +kernel
abbrev b_Q_copy : ByteArray := prog_3_method_3_code
abbrev y_Q_copy : MethodName := ⟨"OldBeams$Fraction", "copy", "(LOldBeams$Fraction;)V"⟩
theorem d_Q_copy_0 : decode b_Q_copy 0 = .ok (.aload_n 0, 1) := by decide +kernel
theorem d_Q_copy_1 : decode b_Q_copy 1 = .ok (.aload_n 1, 1) := by decide +kernel
theorem d_Q_copy_2 : decode b_Q_copy 2 = .ok (.getfield 7, 3) := by decide +kernel
theorem d_Q_copy_5 : decode b_Q_copy 5 = .ok (.putfield 7, 3) := by decide +kernel
theorem d_Q_copy_8 : decode b_Q_copy 8 = .ok (.aload_n 0, 1) := by decide +kernel
theorem d_Q_copy_9 : decode b_Q_copy 9 = .ok (.aload_n 1, 1) := by decide +kernel
theorem d_Q_copy_10 : decode b_Q_copy 10 = .ok (.getfield 13, 3) := by decide +kernel
theorem d_Q_copy_13 : decode b_Q_copy 13 = .ok (.putfield 13, 3) := by decide +kernel
theorem d_Q_copy_16 : decode b_Q_copy 16 = .ok (.return_, 1) := by decide +kernel
abbrev b_F_tryFall : ByteArray := prog_4_method_20_code
abbrev y_F_tryFall : MethodName := ⟨"OldBeams$Frame", "tryFall", "(I[I[I)I"⟩
theorem d_F_tryFall_0 : decode b_F_tryFall 0 = .ok (.aload_n 0, 1) := by decide +kernel
theorem d_F_tryFall_1 : decode b_F_tryFall 1 = .ok (.getfield 86, 3) := by decide +kernel
theorem d_F_tryFall_4 : decode b_F_tryFall 4 = .ok (.istore 4, 2) := by decide +kernel
theorem d_F_tryFall_6 : decode b_F_tryFall 6 = .ok (.iload_n 1, 1) := by decide +kernel
theorem d_F_tryFall_7 : decode b_F_tryFall 7 = .ok (.istore 5, 2) := by decide +kernel
theorem d_F_tryFall_9 : decode b_F_tryFall 9 = .ok (.iconst 0, 1) := by decide +kernel
theorem d_F_tryFall_10 : decode b_F_tryFall 10 = .ok (.istore 6, 2) := by decide +kernel
theorem d_F_tryFall_12 : decode b_F_tryFall 12 = .ok (.iload 6, 2) := by decide +kernel
theorem d_F_tryFall_14 : decode b_F_tryFall 14 = .ok (.bipush 12, 2) := by decide +kernel
theorem d_F_tryFall_16 : decode b_F_tryFall 16 = .ok (.if_icmp .ge 52, 3) := by decide +kernel
theorem d_F_tryFall_19 : decode b_F_tryFall 19 = .ok (.iload 5, 2) := by decide +kernel
theorem d_F_tryFall_21 : decode b_F_tryFall 21 = .ok (.ldc 82, 2) := by decide +kernel
theorem d_F_tryFall_23 : decode b_F_tryFall 23 = .ok (.if_icmp .eq 45, 3) := by decide +kernel
theorem d_F_tryFall_26 : decode b_F_tryFall 26 = .ok (.aload_n 3, 1) := by decide +kernel
theorem d_F_tryFall_27 : decode b_F_tryFall 27 = .ok (.iload 6, 2) := by decide +kernel
theorem d_F_tryFall_29 : decode b_F_tryFall 29 = .ok (.iload 5, 2) := by decide +kernel
theorem d_F_tryFall_31 : decode b_F_tryFall 31 = .ok (.iastore, 1) := by decide +kernel
theorem d_F_tryFall_32 : decode b_F_tryFall 32 = .ok (.iinc 6 1, 3) := by decide +kernel
theorem d_F_tryFall_35 : decode b_F_tryFall 35 = .ok (.iload 4, 2) := by decide +kernel
theorem d_F_tryFall_37 : decode b_F_tryFall 37 = .ok (.iconst 1, 1) := by decide +kernel
theorem d_F_tryFall_38 : decode b_F_tryFall 38 = .ok (.iload 5, 2) := by decide +kernel
theorem d_F_tryFall_40 : decode b_F_tryFall 40 = .ok (.ishl, 1) := by decide +kernel
theorem d_F_tryFall_41 : decode b_F_tryFall 41 = .ok (.ior, 1) := by decide +kernel
theorem d_F_tryFall_42 : decode b_F_tryFall 42 = .ok (.istore 4, 2) := by decide +kernel
theorem d_F_tryFall_44 : decode b_F_tryFall 44 = .ok (.aload_n 0, 1) := by decide +kernel
theorem d_F_tryFall_45 : decode b_F_tryFall 45 = .ok (.aload_n 0, 1) := by decide +kernel
theorem d_F_tryFall_46 : decode b_F_tryFall 46 = .ok (.iload 4, 2) := by decide +kernel
theorem d_F_tryFall_48 : decode b_F_tryFall 48 = .ok (.invokevirtual 89, 3) := by decide +kernel
theorem d_F_tryFall_51 : decode b_F_tryFall 51 = .ok (.putfield 159, 3) := by decide +kernel
theorem d_F_tryFall_54 : decode b_F_tryFall 54 = .ok (.aload_n 0, 1) := by decide +kernel
theorem d_F_tryFall_55 : decode b_F_tryFall 55 = .ok (.aload_n 0, 1) := by decide +kernel
theorem d_F_tryFall_56 : decode b_F_tryFall 56 = .ok (.getfield 159, 3) := by decide +kernel
theorem d_F_tryFall_59 : decode b_F_tryFall 59 = .ok (.aload_n 2, 1) := by decide +kernel
theorem d_F_tryFall_60 : decode b_F_tryFall 60 = .ok (.invokevirtual 162, 3) := by decide +kernel
theorem d_F_tryFall_63 : decode b_F_tryFall 63 = .ok (.istore 5, 2) := by decide +kernel
theorem d_F_tryFall_65 : decode b_F_tryFall 65 = .ok (.goto (-53), 3) := by decide +kernel
theorem d_F_tryFall_68 : decode b_F_tryFall 68 = .ok (.iload 6, 2) := by decide +kernel
theorem d_F_tryFall_70 : decode b_F_tryFall 70 = .ok (.ireturn, 1) := by decide +kernel
abbrev b_F_firstNotHolding : ByteArray := prog_4_method_21_code
abbrev y_F_firstNotHolding : MethodName := ⟨"OldBeams$Frame", "firstNotHolding", "(I[I)I"⟩
theorem d_F_firstNotHolding_0 : decode b_F_firstNotHolding 0 = .ok (.aload_n 0, 1) := by decide +kernel
theorem d_F_firstNotHolding_1 : decode b_F_firstNotHolding 1 = .ok (.iload_n 1, 1) := by decide +kernel
theorem d_F_firstNotHolding_2 : decode b_F_firstNotHolding 2 = .ok (.aload_n 0, 1) := by decide +kernel
theorem d_F_firstNotHolding_3 : decode b_F_firstNotHolding 3 = .ok (.getfield 93, 3) := by decide +kernel
theorem d_F_firstNotHolding_6 : decode b_F_firstNotHolding 6 = .ok (.invokevirtual 96, 3) := by decide +kernel
theorem d_F_firstNotHolding_9 : decode b_F_firstNotHolding 9 = .ok (.iconst 0, 1) := by decide +kernel
theorem d_F_firstNotHolding_10 : decode b_F_firstNotHolding 10 = .ok (.istore_n 3, 1) := by decide +kernel
theorem d_F_firstNotHolding_11 : decode b_F_firstNotHolding 11 = .ok (.iload_n 3, 1) := by decide +kernel
theorem d_F_firstNotHolding_12 : decode b_F_firstNotHolding 12 = .ok (.aload_n 0, 1) := by decide +kernel
theorem d_F_firstNotHolding_13 : decode b_F_firstNotHolding 13 = .ok (.getfield 46, 3) := by decide +kernel
theorem d_F_firstNotHolding_16 : decode b_F_firstNotHolding 16 = .ok (.if_icmp .ge 30, 3) := by decide +kernel
theorem d_F_firstNotHolding_19 : decode b_F_firstNotHolding 19 = .ok (.iload_n 1, 1) := by decide +kernel
theorem d_F_firstNotHolding_20 : decode b_F_firstNotHolding 20 = .ok (.iload_n 3, 1) := by decide +kernel
theorem d_F_firstNotHolding_21 : decode b_F_firstNotHolding 21 = .ok (.invokestatic 83, 3) := by decide +kernel
theorem d_F_firstNotHolding_24 : decode b_F_firstNotHolding 24 = .ok (.ifCond .ne 16, 3) := by decide +kernel
theorem d_F_firstNotHolding_27 : decode b_F_firstNotHolding 27 = .ok (.aload_n 0, 1) := by decide +kernel
theorem d_F_firstNotHolding_28 : decode b_F_firstNotHolding 28 = .ok (.iload_n 3, 1) := by decide +kernel
theorem d_F_firstNotHolding_29 : decode b_F_firstNotHolding 29 = .ok (.aload_n 2, 1) := by decide +kernel
theorem d_F_firstNotHolding_30 : decode b_F_firstNotHolding 30 = .ok (.iload_n 3, 1) := by decide +kernel
theorem d_F_firstNotHolding_31 : decode b_F_firstNotHolding 31 = .ok (.iaload, 1) := by decide +kernel
theorem d_F_firstNotHolding_32 : decode b_F_firstNotHolding 32 = .ok (.invokevirtual 166, 3) := by decide +kernel
theorem d_F_firstNotHolding_35 : decode b_F_firstNotHolding 35 = .ok (.ifCond .ne 5, 3) := by decide +kernel
theorem d_F_firstNotHolding_38 : decode b_F_firstNotHolding 38 = .ok (.iload_n 3, 1) := by decide +kernel
theorem d_F_firstNotHolding_39 : decode b_F_firstNotHolding 39 = .ok (.ireturn, 1) := by decide +kernel
theorem d_F_firstNotHolding_40 : decode b_F_firstNotHolding 40 = .ok (.iinc 3 1, 3) := by decide +kernel
theorem d_F_firstNotHolding_43 : decode b_F_firstNotHolding 43 = .ok (.goto (-32), 3) := by decide +kernel
theorem d_F_firstNotHolding_46 : decode b_F_firstNotHolding 46 = .ok (.ldc 82, 2) := by decide +kernel
theorem d_F_firstNotHolding_48 : decode b_F_firstNotHolding 48 = .ok (.ireturn, 1) := by decide +kernel
abbrev b_F_addProp : ByteArray := prog_4_method_8_code
abbrev y_F_addProp : MethodName := ⟨"OldBeams$Frame", "addProp", "(III)I"⟩
theorem d_F_addProp_0 : decode b_F_addProp 0 = .ok (.aload_n 0, 1) := by decide +kernel
theorem d_F_addProp_1 : decode b_F_addProp 1 = .ok (.getfield 72, 3) := by decide +kernel
theorem d_F_addProp_4 : decode b_F_addProp 4 = .ok (.istore 4, 2) := by decide +kernel
theorem d_F_addProp_6 : decode b_F_addProp 6 = .ok (.aload_n 0, 1) := by decide +kernel
theorem d_F_addProp_7 : decode b_F_addProp 7 = .ok (.getfield 36, 3) := by decide +kernel
theorem d_F_addProp_10 : decode b_F_addProp 10 = .ok (.iload 4, 2) := by decide +kernel
theorem d_F_addProp_12 : decode b_F_addProp 12 = .ok (.iload_n 1, 1) := by decide +kernel
theorem d_F_addProp_13 : decode b_F_addProp 13 = .ok (.iastore, 1) := by decide +kernel
theorem d_F_addProp_14 : decode b_F_addProp 14 = .ok (.aload_n 0, 1) := by decide +kernel
theorem d_F_addProp_15 : decode b_F_addProp 15 = .ok (.getfield 39, 3) := by decide +kernel
theorem d_F_addProp_18 : decode b_F_addProp 18 = .ok (.iload 4, 2) := by decide +kernel
theorem d_F_addProp_20 : decode b_F_addProp 20 = .ok (.iload_n 2, 1) := by decide +kernel
theorem d_F_addProp_21 : decode b_F_addProp 21 = .ok (.iastore, 1) := by decide +kernel
theorem d_F_addProp_22 : decode b_F_addProp 22 = .ok (.aload_n 0, 1) := by decide +kernel
theorem d_F_addProp_23 : decode b_F_addProp 23 = .ok (.getfield 42, 3) := by decide +kernel
theorem d_F_addProp_26 : decode b_F_addProp 26 = .ok (.iload 4, 2) := by decide +kernel
theorem d_F_addProp_28 : decode b_F_addProp 28 = .ok (.iload_n 3, 1) := by decide +kernel
theorem d_F_addProp_29 : decode b_F_addProp 29 = .ok (.iastore, 1) := by decide +kernel
theorem d_F_addProp_30 : decode b_F_addProp 30 = .ok (.aload_n 0, 1) := by decide +kernel
theorem d_F_addProp_31 : decode b_F_addProp 31 = .ok (.iload 4, 2) := by decide +kernel
theorem d_F_addProp_33 : decode b_F_addProp 33 = .ok (.iconst 1, 1) := by decide +kernel
theorem d_F_addProp_34 : decode b_F_addProp 34 = .ok (.iadd, 1) := by decide +kernel
theorem d_F_addProp_35 : decode b_F_addProp 35 = .ok (.putfield 72, 3) := by decide +kernel
theorem d_F_addProp_38 : decode b_F_addProp 38 = .ok (.iload 4, 2) := by decide +kernel
theorem d_F_addProp_40 : decode b_F_addProp 40 = .ok (.ireturn, 1) := by decide +kernel
abbrev b_F_fewestProps : ByteArray := prog_4_method_22_code
abbrev y_F_fewestProps : MethodName := ⟨"OldBeams$Frame", "fewestProps", "([I)I"⟩
theorem d_F_fewestProps_0 : decode b_F_fewestProps 0 = .ok (.aload_n 0, 1) := by decide +kernel
theorem d_F_fewestProps_1 : decode b_F_fewestProps 1 = .ok (.aload_n 0, 1) := by decide +kernel
theorem d_F_fewestProps_2 : decode b_F_fewestProps 2 = .ok (.getfield 86, 3) := by decide +kernel
theorem d_F_fewestProps_5 : decode b_F_fewestProps 5 = .ok (.invokevirtual 89, 3) := by decide +kernel
theorem d_F_fewestProps_8 : decode b_F_fewestProps 8 = .ok (.ifCond .eq 6, 3) := by decide +kernel
theorem d_F_fewestProps_11 : decode b_F_fewestProps 11 = .ok (.ldc 82, 2) := by decide +kernel
theorem d_F_fewestProps_13 : decode b_F_fewestProps 13 = .ok (.ireturn, 1) := by decide +kernel
theorem d_F_fewestProps_14 : decode b_F_fewestProps 14 = .ok (.sipush 255, 3) := by decide +kernel
theorem d_F_fewestProps_17 : decode b_F_fewestProps 17 = .ok (.istore_n 2, 1) := by decide +kernel
theorem d_F_fewestProps_18 : decode b_F_fewestProps 18 = .ok (.iload_n 2, 1) := by decide +kernel
theorem d_F_fewestProps_19 : decode b_F_fewestProps 19 = .ok (.aload_n 0, 1) := by decide +kernel
theorem d_F_fewestProps_20 : decode b_F_fewestProps 20 = .ok (.getfield 72, 3) := by decide +kernel
theorem d_F_fewestProps_23 : decode b_F_fewestProps 23 = .ok (.ishr, 1) := by decide +kernel
theorem d_F_fewestProps_24 : decode b_F_fewestProps 24 = .ok (.istore_n 3, 1) := by decide +kernel
theorem d_F_fewestProps_25 : decode b_F_fewestProps 25 = .ok (.iconst 0, 1) := by decide +kernel
theorem d_F_fewestProps_26 : decode b_F_fewestProps 26 = .ok (.istore 4, 2) := by decide +kernel
theorem d_F_fewestProps_28 : decode b_F_fewestProps 28 = .ok (.iload 4, 2) := by decide +kernel
theorem d_F_fewestProps_30 : decode b_F_fewestProps 30 = .ok (.aload_n 0, 1) := by decide +kernel
theorem d_F_fewestProps_31 : decode b_F_fewestProps 31 = .ok (.getfield 72, 3) := by decide +kernel
theorem d_F_fewestProps_34 : decode b_F_fewestProps 34 = .ok (.if_icmp .gt 56, 3) := by decide +kernel
theorem d_F_fewestProps_37 : decode b_F_fewestProps 37 = .ok (.iload_n 2, 1) := by decide +kernel
theorem d_F_fewestProps_38 : decode b_F_fewestProps 38 = .ok (.istore 5, 2) := by decide +kernel
theorem d_F_fewestProps_40 : decode b_F_fewestProps 40 = .ok (.iload 5, 2) := by decide +kernel
theorem d_F_fewestProps_42 : decode b_F_fewestProps 42 = .ok (.ifCond .lt 42, 3) := by decide +kernel
theorem d_F_fewestProps_45 : decode b_F_fewestProps 45 = .ok (.iload 5, 2) := by decide +kernel
theorem d_F_fewestProps_47 : decode b_F_fewestProps 47 = .ok (.invokestatic 169, 3) := by decide +kernel
theorem d_F_fewestProps_50 : decode b_F_fewestProps 50 = .ok (.iload 4, 2) := by decide +kernel
theorem d_F_fewestProps_52 : decode b_F_fewestProps 52 = .ok (.if_icmp .ne 26, 3) := by decide +kernel
theorem d_F_fewestProps_55 : decode b_F_fewestProps 55 = .ok (.iload 5, 2) := by decide +kernel
theorem d_F_fewestProps_57 : decode b_F_fewestProps 57 = .ok (.iload_n 3, 1) := by decide +kernel
theorem d_F_fewestProps_58 : decode b_F_fewestProps 58 = .ok (.iand, 1) := by decide +kernel
theorem d_F_fewestProps_59 : decode b_F_fewestProps 59 = .ok (.ifCond .eq 6, 3) := by decide +kernel
theorem d_F_fewestProps_62 : decode b_F_fewestProps 62 = .ok (.goto 16, 3) := by decide +kernel
theorem d_F_fewestProps_65 : decode b_F_fewestProps 65 = .ok (.aload_n 0, 1) := by decide +kernel
theorem d_F_fewestProps_66 : decode b_F_fewestProps 66 = .ok (.iload 5, 2) := by decide +kernel
theorem d_F_fewestProps_68 : decode b_F_fewestProps 68 = .ok (.aload_n 1, 1) := by decide +kernel
theorem d_F_fewestProps_69 : decode b_F_fewestProps 69 = .ok (.invokevirtual 174, 3) := by decide +kernel
theorem d_F_fewestProps_72 : decode b_F_fewestProps 72 = .ok (.ifCond .eq 6, 3) := by decide +kernel
theorem d_F_fewestProps_75 : decode b_F_fewestProps 75 = .ok (.iload 5, 2) := by decide +kernel
theorem d_F_fewestProps_77 : decode b_F_fewestProps 77 = .ok (.ireturn, 1) := by decide +kernel
theorem d_F_fewestProps_78 : decode b_F_fewestProps 78 = .ok (.iinc 5 (-1), 3) := by decide +kernel
theorem d_F_fewestProps_81 : decode b_F_fewestProps 81 = .ok (.goto (-41), 3) := by decide +kernel
theorem d_F_fewestProps_84 : decode b_F_fewestProps 84 = .ok (.iinc 4 1, 3) := by decide +kernel
theorem d_F_fewestProps_87 : decode b_F_fewestProps 87 = .ok (.goto (-59), 3) := by decide +kernel
theorem d_F_fewestProps_90 : decode b_F_fewestProps 90 = .ok (.ldc 82, 2) := by decide +kernel
theorem d_F_fewestProps_92 : decode b_F_fewestProps 92 = .ok (.ireturn, 1) := by decide +kernel
abbrev b_F_standsWith : ByteArray := prog_4_method_23_code
abbrev y_F_standsWith : MethodName := ⟨"OldBeams$Frame", "standsWith", "(I[I)Z"⟩
theorem d_F_standsWith_0 : decode b_F_standsWith 0 = .ok (.aload_n 0, 1) := by decide +kernel
theorem d_F_standsWith_1 : decode b_F_standsWith 1 = .ok (.iload_n 1, 1) := by decide +kernel
theorem d_F_standsWith_2 : decode b_F_standsWith 2 = .ok (.invokevirtual 100, 3) := by decide +kernel
theorem d_F_standsWith_5 : decode b_F_standsWith 5 = .ok (.aload_n 0, 1) := by decide +kernel
theorem d_F_standsWith_6 : decode b_F_standsWith 6 = .ok (.getfield 46, 3) := by decide +kernel
theorem d_F_standsWith_9 : decode b_F_standsWith 9 = .ok (.iconst 1, 1) := by decide +kernel
theorem d_F_standsWith_10 : decode b_F_standsWith 10 = .ok (.isub, 1) := by decide +kernel
theorem d_F_standsWith_11 : decode b_F_standsWith 11 = .ok (.istore_n 3, 1) := by decide +kernel
theorem d_F_standsWith_12 : decode b_F_standsWith 12 = .ok (.iload_n 3, 1) := by decide +kernel
theorem d_F_standsWith_13 : decode b_F_standsWith 13 = .ok (.ifCond .lt 32, 3) := by decide +kernel
theorem d_F_standsWith_16 : decode b_F_standsWith 16 = .ok (.aload_n 0, 1) := by decide +kernel
theorem d_F_standsWith_17 : decode b_F_standsWith 17 = .ok (.aload_n 0, 1) := by decide +kernel
theorem d_F_standsWith_18 : decode b_F_standsWith 18 = .ok (.getfield 18, 3) := by decide +kernel
theorem d_F_standsWith_21 : decode b_F_standsWith 21 = .ok (.iload_n 3, 1) := by decide +kernel
theorem d_F_standsWith_22 : decode b_F_standsWith 22 = .ok (.aaload, 1) := by decide +kernel
theorem d_F_standsWith_23 : decode b_F_standsWith 23 = .ok (.invokevirtual 104, 3) := by decide +kernel
theorem d_F_standsWith_26 : decode b_F_standsWith 26 = .ok (.aload_n 0, 1) := by decide +kernel
theorem d_F_standsWith_27 : decode b_F_standsWith 27 = .ok (.iload_n 3, 1) := by decide +kernel
theorem d_F_standsWith_28 : decode b_F_standsWith 28 = .ok (.aload_n 2, 1) := by decide +kernel
theorem d_F_standsWith_29 : decode b_F_standsWith 29 = .ok (.iload_n 3, 1) := by decide +kernel
theorem d_F_standsWith_30 : decode b_F_standsWith 30 = .ok (.iaload, 1) := by decide +kernel
theorem d_F_standsWith_31 : decode b_F_standsWith 31 = .ok (.invokevirtual 166, 3) := by decide +kernel
theorem d_F_standsWith_34 : decode b_F_standsWith 34 = .ok (.ifCond .ne 5, 3) := by decide +kernel
theorem d_F_standsWith_37 : decode b_F_standsWith 37 = .ok (.iconst 0, 1) := by decide +kernel
theorem d_F_standsWith_38 : decode b_F_standsWith 38 = .ok (.ireturn, 1) := by decide +kernel
theorem d_F_standsWith_39 : decode b_F_standsWith 39 = .ok (.iinc 3 (-1), 3) := by decide +kernel
theorem d_F_standsWith_42 : decode b_F_standsWith 42 = .ok (.goto (-30), 3) := by decide +kernel
theorem d_F_standsWith_45 : decode b_F_standsWith 45 = .ok (.iconst 1, 1) := by decide +kernel
theorem d_F_standsWith_46 : decode b_F_standsWith 46 = .ok (.ireturn, 1) := by decide +kernel
abbrev b_Ma_min : ByteArray := prog_9_method_70_code
abbrev y_Ma_min : MethodName := ⟨"java/lang/Math", "min", "(JJ)J"⟩
theorem d_Ma_min_0 : decode b_Ma_min 0 = .ok (.lload_n 0, 1) := by decide +kernel
theorem d_Ma_min_1 : decode b_Ma_min 1 = .ok (.lload_n 2, 1) := by decide +kernel
theorem d_Ma_min_2 : decode b_Ma_min 2 = .ok (.lcmp, 1) := by decide +kernel
theorem d_Ma_min_3 : decode b_Ma_min 3 = .ok (.ifCond .gt 7, 3) := by decide +kernel
theorem d_Ma_min_6 : decode b_Ma_min 6 = .ok (.lload_n 0, 1) := by decide +kernel
theorem d_Ma_min_7 : decode b_Ma_min 7 = .ok (.goto 4, 3) := by decide +kernel
theorem d_Ma_min_10 : decode b_Ma_min 10 = .ok (.lload_n 2, 1) := by decide +kernel
theorem d_Ma_min_11 : decode b_Ma_min 11 = .ok (.lreturn, 1) := by decide +kernel
abbrev b_F_loadsOn : ByteArray := prog_4_method_7_code
abbrev y_F_loadsOn : MethodName := ⟨"OldBeams$Frame", "loadsOn", "()I"⟩
theorem d_F_loadsOn_0 : decode b_F_loadsOn 0 = .ok (.iconst 0, 1) := by decide +kernel
theorem d_F_loadsOn_1 : decode b_F_loadsOn 1 = .ok (.istore_n 1, 1) := by decide +kernel
theorem d_F_loadsOn_2 : decode b_F_loadsOn 2 = .ok (.iconst 0, 1) := by decide +kernel
theorem d_F_loadsOn_3 : decode b_F_loadsOn 3 = .ok (.istore_n 2, 1) := by decide +kernel
theorem d_F_loadsOn_4 : decode b_F_loadsOn 4 = .ok (.iload_n 2, 1) := by decide +kernel
theorem d_F_loadsOn_5 : decode b_F_loadsOn 5 = .ok (.aload_n 0, 1) := by decide +kernel
theorem d_F_loadsOn_6 : decode b_F_loadsOn 6 = .ok (.getfield 65, 3) := by decide +kernel
theorem d_F_loadsOn_9 : decode b_F_loadsOn 9 = .ok (.if_icmp .ge 21, 3) := by decide +kernel
theorem d_F_loadsOn_12 : decode b_F_loadsOn 12 = .ok (.aload_n 0, 1) := by decide +kernel
theorem d_F_loadsOn_13 : decode b_F_loadsOn 13 = .ok (.getfield 32, 3) := by decide +kernel
theorem d_F_loadsOn_16 : decode b_F_loadsOn 16 = .ok (.iload_n 2, 1) := by decide +kernel
theorem d_F_loadsOn_17 : decode b_F_loadsOn 17 = .ok (.baload, 1) := by decide +kernel
theorem d_F_loadsOn_18 : decode b_F_loadsOn 18 = .ok (.ifCond .eq 6, 3) := by decide +kernel
theorem d_F_loadsOn_21 : decode b_F_loadsOn 21 = .ok (.iinc 1 1, 3) := by decide +kernel
theorem d_F_loadsOn_24 : decode b_F_loadsOn 24 = .ok (.iinc 2 1, 3) := by decide +kernel
theorem d_F_loadsOn_27 : decode b_F_loadsOn 27 = .ok (.goto (-23), 3) := by decide +kernel
theorem d_F_loadsOn_30 : decode b_F_loadsOn 30 = .ok (.iload_n 1, 1) := by decide +kernel
theorem d_F_loadsOn_31 : decode b_F_loadsOn 31 = .ok (.ireturn, 1) := by decide +kernel
