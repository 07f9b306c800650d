abbrev b_O_init : ByteArray := prog_1_method_1_code
abbrev y_O_init : MethodName := ⟨"OldBeams", "<init>", "()V"⟩
theorem d_O_init_0 : decode b_O_init 0 = .ok (.aload_n 0, 1) := by decide +kernel
theorem d_O_init_1 : decode b_O_init 1 = .ok (.invokespecial 3, 3) := by decide +kernel
theorem d_O_init_4 : decode b_O_init 4 = .ok (.aload_n 0, 1) := by decide +kernel
theorem d_O_init_5 : decode b_O_init 5 = .ok (.new 9, 3) := by decide +kernel
theorem d_O_init_8 : decode b_O_init 8 = .ok (.dup, 1) := by decide +kernel
theorem d_O_init_9 : decode b_O_init 9 = .ok (.invokespecial 11, 3) := by decide +kernel
theorem d_O_init_12 : decode b_O_init 12 = .ok (.putfield 12, 3) := by decide +kernel
theorem d_O_init_15 : decode b_O_init 15 = .ok (.aload_n 0, 1) := by decide +kernel
theorem d_O_init_16 : decode b_O_init 16 = .ok (.new 16, 3) := by decide +kernel
theorem d_O_init_19 : decode b_O_init 19 = .ok (.dup, 1) := by decide +kernel
theorem d_O_init_20 : decode b_O_init 20 = .ok (.invokespecial 18, 3) := by decide +kernel
theorem d_O_init_23 : decode b_O_init 23 = .ok (.putfield 19, 3) := by decide +kernel
theorem d_O_init_26 : decode b_O_init 26 = .ok (.aload_n 0, 1) := by decide +kernel
theorem d_O_init_27 : decode b_O_init 27 = .ok (.new 23, 3) := by decide +kernel
theorem d_O_init_30 : decode b_O_init 30 = .ok (.dup, 1) := by decide +kernel
theorem d_O_init_31 : decode b_O_init 31 = .ok (.invokespecial 25, 3) := by decide +kernel
theorem d_O_init_34 : decode b_O_init 34 = .ok (.putfield 26, 3) := by decide +kernel
theorem d_O_init_37 : decode b_O_init 37 = .ok (.aload_n 0, 1) := by decide +kernel
theorem d_O_init_38 : decode b_O_init 38 = .ok (.new 23, 3) := by decide +kernel
theorem d_O_init_41 : decode b_O_init 41 = .ok (.dup, 1) := by decide +kernel
theorem d_O_init_42 : decode b_O_init 42 = .ok (.invokespecial 25, 3) := by decide +kernel
theorem d_O_init_45 : decode b_O_init 45 = .ok (.putfield 30, 3) := by decide +kernel
theorem d_O_init_48 : decode b_O_init 48 = .ok (.aload_n 0, 1) := by decide +kernel
theorem d_O_init_49 : decode b_O_init 49 = .ok (.iconst 2, 1) := by decide +kernel
theorem d_O_init_50 : decode b_O_init 50 = .ok (.newarray .int, 2) := by decide +kernel
theorem d_O_init_52 : decode b_O_init 52 = .ok (.dup, 1) := by decide +kernel
theorem d_O_init_53 : decode b_O_init 53 = .ok (.iconst 0, 1) := by decide +kernel
theorem d_O_init_54 : decode b_O_init 54 = .ok (.bipush 100, 2) := by decide +kernel
theorem d_O_init_56 : decode b_O_init 56 = .ok (.iastore, 1) := by decide +kernel
theorem d_O_init_57 : decode b_O_init 57 = .ok (.dup, 1) := by decide +kernel
theorem d_O_init_58 : decode b_O_init 58 = .ok (.iconst 1, 1) := by decide +kernel
theorem d_O_init_59 : decode b_O_init 59 = .ok (.sipush 1000, 3) := by decide +kernel
theorem d_O_init_62 : decode b_O_init 62 = .ok (.iastore, 1) := by decide +kernel
theorem d_O_init_63 : decode b_O_init 63 = .ok (.putfield 33, 3) := by decide +kernel
theorem d_O_init_66 : decode b_O_init 66 = .ok (.aload_n 0, 1) := by decide +kernel
theorem d_O_init_67 : decode b_O_init 67 = .ok (.bipush 12, 2) := by decide +kernel
theorem d_O_init_69 : decode b_O_init 69 = .ok (.newarray .int, 2) := by decide +kernel
theorem d_O_init_71 : decode b_O_init 71 = .ok (.putfield 37, 3) := by decide +kernel
theorem d_O_init_74 : decode b_O_init 74 = .ok (.aload_n 0, 1) := by decide +kernel
theorem d_O_init_75 : decode b_O_init 75 = .ok (.bipush 12, 2) := by decide +kernel
theorem d_O_init_77 : decode b_O_init 77 = .ok (.newarray .int, 2) := by decide +kernel
theorem d_O_init_79 : decode b_O_init 79 = .ok (.putfield 40, 3) := by decide +kernel
theorem d_O_init_82 : decode b_O_init 82 = .ok (.return_, 1) := by decide +kernel
abbrev b_O_kind : ByteArray := prog_1_method_2_code
abbrev y_O_kind : MethodName := ⟨"OldBeams", "kind", "(III)I"⟩
theorem d_O_kind_0 : decode b_O_kind 0 = .ok (.iload_n 1, 1) := by decide +kernel
theorem d_O_kind_1 : decode b_O_kind 1 = .ok (.iconst 0, 1) := by decide +kernel
theorem d_O_kind_2 : decode b_O_kind 2 = .ok (.iconst 3, 1) := by decide +kernel
theorem d_O_kind_3 : decode b_O_kind 3 = .ok (.invokestatic 43, 3) := by decide +kernel
theorem d_O_kind_6 : decode b_O_kind 6 = .ok (.ifCond .ne 6, 3) := by decide +kernel
theorem d_O_kind_9 : decode b_O_kind 9 = .ok (.ldc 47, 2) := by decide +kernel
theorem d_O_kind_11 : decode b_O_kind 11 = .ok (.ireturn, 1) := by decide +kernel
theorem d_O_kind_12 : decode b_O_kind 12 = .ok (.iload_n 2, 1) := by decide +kernel
theorem d_O_kind_13 : decode b_O_kind 13 = .ok (.iconst 0, 1) := by decide +kernel
theorem d_O_kind_14 : decode b_O_kind 14 = .ok (.iconst 2, 1) := by decide +kernel
theorem d_O_kind_15 : decode b_O_kind 15 = .ok (.invokestatic 43, 3) := by decide +kernel
theorem d_O_kind_18 : decode b_O_kind 18 = .ok (.ifCond .ne 6, 3) := by decide +kernel
theorem d_O_kind_21 : decode b_O_kind 21 = .ok (.ldc 48, 2) := by decide +kernel
theorem d_O_kind_23 : decode b_O_kind 23 = .ok (.ireturn, 1) := by decide +kernel
theorem d_O_kind_24 : decode b_O_kind 24 = .ok (.iload_n 2, 1) := by decide +kernel
theorem d_O_kind_25 : decode b_O_kind 25 = .ok (.ifCond .ne 14, 3) := by decide +kernel
theorem d_O_kind_28 : decode b_O_kind 28 = .ok (.iload_n 3, 1) := by decide +kernel
theorem d_O_kind_29 : decode b_O_kind 29 = .ok (.iconst 1, 1) := by decide +kernel
theorem d_O_kind_30 : decode b_O_kind 30 = .ok (.sipush 999, 3) := by decide +kernel
theorem d_O_kind_33 : decode b_O_kind 33 = .ok (.invokestatic 43, 3) := by decide +kernel
theorem d_O_kind_36 : decode b_O_kind 36 = .ok (.goto 10, 3) := by decide +kernel
theorem d_O_kind_39 : decode b_O_kind 39 = .ok (.iload_n 3, 1) := by decide +kernel
theorem d_O_kind_40 : decode b_O_kind 40 = .ok (.iconst 0, 1) := by decide +kernel
theorem d_O_kind_41 : decode b_O_kind 41 = .ok (.bipush 10, 2) := by decide +kernel
theorem d_O_kind_43 : decode b_O_kind 43 = .ok (.invokestatic 43, 3) := by decide +kernel
theorem d_O_kind_46 : decode b_O_kind 46 = .ok (.istore 4, 2) := by decide +kernel
theorem d_O_kind_48 : decode b_O_kind 48 = .ok (.iload 4, 2) := by decide +kernel
theorem d_O_kind_50 : decode b_O_kind 50 = .ok (.ifCond .ne 6, 3) := by decide +kernel
theorem d_O_kind_53 : decode b_O_kind 53 = .ok (.ldc 48, 2) := by decide +kernel
theorem d_O_kind_55 : decode b_O_kind 55 = .ok (.ireturn, 1) := by decide +kernel
theorem d_O_kind_56 : decode b_O_kind 56 = .ok (.aload_n 0, 1) := by decide +kernel
theorem d_O_kind_57 : decode b_O_kind 57 = .ok (.getfield 12, 3) := by decide +kernel
theorem d_O_kind_60 : decode b_O_kind 60 = .ok (.getfield 49, 3) := by decide +kernel
theorem d_O_kind_63 : decode b_O_kind 63 = .ok (.iload_n 1, 1) := by decide +kernel
theorem d_O_kind_64 : decode b_O_kind 64 = .ok (.aaload, 1) := by decide +kernel
theorem d_O_kind_65 : decode b_O_kind 65 = .ok (.iload_n 2, 1) := by decide +kernel
theorem d_O_kind_66 : decode b_O_kind 66 = .ok (.iaload, 1) := by decide +kernel
theorem d_O_kind_67 : decode b_O_kind 67 = .ok (.istore 5, 2) := by decide +kernel
theorem d_O_kind_69 : decode b_O_kind 69 = .ok (.aload_n 0, 1) := by decide +kernel
theorem d_O_kind_70 : decode b_O_kind 70 = .ok (.getfield 12, 3) := by decide +kernel
theorem d_O_kind_73 : decode b_O_kind 73 = .ok (.getfield 49, 3) := by decide +kernel
theorem d_O_kind_76 : decode b_O_kind 76 = .ok (.iload_n 1, 1) := by decide +kernel
theorem d_O_kind_77 : decode b_O_kind 77 = .ok (.aaload, 1) := by decide +kernel
theorem d_O_kind_78 : decode b_O_kind 78 = .ok (.iload_n 2, 1) := by decide +kernel
theorem d_O_kind_79 : decode b_O_kind 79 = .ok (.iload_n 3, 1) := by decide +kernel
theorem d_O_kind_80 : decode b_O_kind 80 = .ok (.iastore, 1) := by decide +kernel
theorem d_O_kind_81 : decode b_O_kind 81 = .ok (.iload 5, 2) := by decide +kernel
theorem d_O_kind_83 : decode b_O_kind 83 = .ok (.ireturn, 1) := by decide +kernel
abbrev b_O_within : ByteArray := prog_1_method_37_code
abbrev y_O_within : MethodName := ⟨"OldBeams", "within", "(III)Z"⟩
theorem d_O_within_0 : decode b_O_within 0 = .ok (.iload_n 0, 1) := by decide +kernel
theorem d_O_within_1 : decode b_O_within 1 = .ok (.iload_n 1, 1) := by decide +kernel
theorem d_O_within_2 : decode b_O_within 2 = .ok (.if_icmp .lt 12, 3) := by decide +kernel
theorem d_O_within_5 : decode b_O_within 5 = .ok (.iload_n 0, 1) := by decide +kernel
theorem d_O_within_6 : decode b_O_within 6 = .ok (.iload_n 2, 1) := by decide +kernel
theorem d_O_within_7 : decode b_O_within 7 = .ok (.if_icmp .gt 7, 3) := by decide +kernel
theorem d_O_within_10 : decode b_O_within 10 = .ok (.iconst 1, 1) := by decide +kernel
theorem d_O_within_11 : decode b_O_within 11 = .ok (.goto 4, 3) := by decide +kernel
theorem d_O_within_14 : decode b_O_within 14 = .ok (.iconst 0, 1) := by decide +kernel
theorem d_O_within_15 : decode b_O_within 15 = .ok (.ireturn, 1) := by decide +kernel
abbrev b_O_beam : ByteArray := prog_1_method_3_code
abbrev y_O_beam : MethodName := ⟨"OldBeams", "beam", "(IIIII)I"⟩
theorem d_O_beam_0 : decode b_O_beam 0 = .ok (.iload_n 1, 1) := by decide +kernel
theorem d_O_beam_1 : decode b_O_beam 1 = .ok (.iconst 0, 1) := by decide +kernel
theorem d_O_beam_2 : decode b_O_beam 2 = .ok (.iconst 3, 1) := by decide +kernel
theorem d_O_beam_3 : decode b_O_beam 3 = .ok (.invokestatic 43, 3) := by decide +kernel
theorem d_O_beam_6 : decode b_O_beam 6 = .ok (.ifCond .ne 6, 3) := by decide +kernel
theorem d_O_beam_9 : decode b_O_beam 9 = .ok (.ldc 47, 2) := by decide +kernel
theorem d_O_beam_11 : decode b_O_beam 11 = .ok (.ireturn, 1) := by decide +kernel
theorem d_O_beam_12 : decode b_O_beam 12 = .ok (.iload_n 2, 1) := by decide +kernel
theorem d_O_beam_13 : decode b_O_beam 13 = .ok (.iconst 2, 1) := by decide +kernel
theorem d_O_beam_14 : decode b_O_beam 14 = .ok (.bipush 60, 2) := by decide +kernel
theorem d_O_beam_16 : decode b_O_beam 16 = .ok (.invokestatic 43, 3) := by decide +kernel
theorem d_O_beam_19 : decode b_O_beam 19 = .ok (.ifCond .eq 24, 3) := by decide +kernel
theorem d_O_beam_22 : decode b_O_beam 22 = .ok (.iload_n 3, 1) := by decide +kernel
theorem d_O_beam_23 : decode b_O_beam 23 = .ok (.iconst 1, 1) := by decide +kernel
theorem d_O_beam_24 : decode b_O_beam 24 = .ok (.bipush 40, 2) := by decide +kernel
theorem d_O_beam_26 : decode b_O_beam 26 = .ok (.invokestatic 43, 3) := by decide +kernel
theorem d_O_beam_29 : decode b_O_beam 29 = .ok (.ifCond .eq 14, 3) := by decide +kernel
theorem d_O_beam_32 : decode b_O_beam 32 = .ok (.iload 4, 2) := by decide +kernel
theorem d_O_beam_34 : decode b_O_beam 34 = .ok (.iconst 1, 1) := by decide +kernel
theorem d_O_beam_35 : decode b_O_beam 35 = .ok (.bipush 40, 2) := by decide +kernel
theorem d_O_beam_37 : decode b_O_beam 37 = .ok (.invokestatic 43, 3) := by decide +kernel
theorem d_O_beam_40 : decode b_O_beam 40 = .ok (.ifCond .ne 6, 3) := by decide +kernel
theorem d_O_beam_43 : decode b_O_beam 43 = .ok (.ldc 48, 2) := by decide +kernel
theorem d_O_beam_45 : decode b_O_beam 45 = .ok (.ireturn, 1) := by decide +kernel
theorem d_O_beam_46 : decode b_O_beam 46 = .ok (.iload 5, 2) := by decide +kernel
theorem d_O_beam_48 : decode b_O_beam 48 = .ok (.invokestatic 53, 3) := by decide +kernel
theorem d_O_beam_51 : decode b_O_beam 51 = .ok (.ifCond .ne 6, 3) := by decide +kernel
theorem d_O_beam_54 : decode b_O_beam 54 = .ok (.ldc 48, 2) := by decide +kernel
theorem d_O_beam_56 : decode b_O_beam 56 = .ok (.ireturn, 1) := by decide +kernel
theorem d_O_beam_57 : decode b_O_beam 57 = .ok (.aload_n 0, 1) := by decide +kernel
theorem d_O_beam_58 : decode b_O_beam 58 = .ok (.getfield 12, 3) := by decide +kernel
theorem d_O_beam_61 : decode b_O_beam 61 = .ok (.getfield 57, 3) := by decide +kernel
theorem d_O_beam_64 : decode b_O_beam 64 = .ok (.bipush 12, 2) := by decide +kernel
theorem d_O_beam_66 : decode b_O_beam 66 = .ok (.if_icmp .lt 6, 3) := by decide +kernel
theorem d_O_beam_69 : decode b_O_beam 69 = .ok (.ldc 61, 2) := by decide +kernel
theorem d_O_beam_71 : decode b_O_beam 71 = .ok (.ireturn, 1) := by decide +kernel
theorem d_O_beam_72 : decode b_O_beam 72 = .ok (.aload_n 0, 1) := by decide +kernel
theorem d_O_beam_73 : decode b_O_beam 73 = .ok (.getfield 12, 3) := by decide +kernel
theorem d_O_beam_76 : decode b_O_beam 76 = .ok (.iload_n 1, 1) := by decide +kernel
theorem d_O_beam_77 : decode b_O_beam 77 = .ok (.iload_n 2, 1) := by decide +kernel
theorem d_O_beam_78 : decode b_O_beam 78 = .ok (.iload_n 3, 1) := by decide +kernel
theorem d_O_beam_79 : decode b_O_beam 79 = .ok (.iload 4, 2) := by decide +kernel
theorem d_O_beam_81 : decode b_O_beam 81 = .ok (.invokevirtual 62, 3) := by decide +kernel
theorem d_O_beam_84 : decode b_O_beam 84 = .ok (.ireturn, 1) := by decide +kernel
abbrev b_O_isYear : ByteArray := prog_1_method_38_code
abbrev y_O_isYear : MethodName := ⟨"OldBeams", "isYear", "(I)Z"⟩
theorem d_O_isYear_0 : decode b_O_isYear 0 = .ok (.iload_n 0, 1) := by decide +kernel
theorem d_O_isYear_1 : decode b_O_isYear 1 = .ok (.iconst 0, 1) := by decide +kernel
theorem d_O_isYear_2 : decode b_O_isYear 2 = .ok (.sipush 500, 3) := by decide +kernel
theorem d_O_isYear_5 : decode b_O_isYear 5 = .ok (.invokestatic 43, 3) := by decide +kernel
theorem d_O_isYear_8 : decode b_O_isYear 8 = .ok (.ireturn, 1) := by decide +kernel
abbrev b_O_seat : ByteArray := prog_1_method_4_code
abbrev y_O_seat : MethodName := ⟨"OldBeams", "seat", "(IIIII)I"⟩
theorem d_O_seat_0 : decode b_O_seat 0 = .ok (.aload_n 0, 1) := by decide +kernel
theorem d_O_seat_1 : decode b_O_seat 1 = .ok (.getfield 12, 3) := by decide +kernel
theorem d_O_seat_4 : decode b_O_seat 4 = .ok (.iload_n 1, 1) := by decide +kernel
theorem d_O_seat_5 : decode b_O_seat 5 = .ok (.invokevirtual 66, 3) := by decide +kernel
theorem d_O_seat_8 : decode b_O_seat 8 = .ok (.ifCond .ne 6, 3) := by decide +kernel
theorem d_O_seat_11 : decode b_O_seat 11 = .ok (.ldc 47, 2) := by decide +kernel
theorem d_O_seat_13 : decode b_O_seat 13 = .ok (.ireturn, 1) := by decide +kernel
theorem d_O_seat_14 : decode b_O_seat 14 = .ok (.iload_n 2, 1) := by decide +kernel
theorem d_O_seat_15 : decode b_O_seat 15 = .ok (.iconst 0, 1) := by decide +kernel
theorem d_O_seat_16 : decode b_O_seat 16 = .ok (.iconst 1, 1) := by decide +kernel
theorem d_O_seat_17 : decode b_O_seat 17 = .ok (.invokestatic 43, 3) := by decide +kernel
theorem d_O_seat_20 : decode b_O_seat 20 = .ok (.ifCond .eq 15, 3) := by decide +kernel
theorem d_O_seat_23 : decode b_O_seat 23 = .ok (.aload_n 0, 1) := by decide +kernel
theorem d_O_seat_24 : decode b_O_seat 24 = .ok (.getfield 12, 3) := by decide +kernel
theorem d_O_seat_27 : decode b_O_seat 27 = .ok (.iload_n 1, 1) := by decide +kernel
theorem d_O_seat_28 : decode b_O_seat 28 = .ok (.iload_n 3, 1) := by decide +kernel
theorem d_O_seat_29 : decode b_O_seat 29 = .ok (.invokevirtual 69, 3) := by decide +kernel
theorem d_O_seat_32 : decode b_O_seat 32 = .ok (.ifCond .ne 6, 3) := by decide +kernel
theorem d_O_seat_35 : decode b_O_seat 35 = .ok (.ldc 48, 2) := by decide +kernel
theorem d_O_seat_37 : decode b_O_seat 37 = .ok (.ireturn, 1) := by decide +kernel
theorem d_O_seat_38 : decode b_O_seat 38 = .ok (.iload 4, 2) := by decide +kernel
theorem d_O_seat_40 : decode b_O_seat 40 = .ok (.ldc 73, 2) := by decide +kernel
theorem d_O_seat_42 : decode b_O_seat 42 = .ok (.if_icmp .eq 35, 3) := by decide +kernel
theorem d_O_seat_45 : decode b_O_seat 45 = .ok (.iload 4, 2) := by decide +kernel
theorem d_O_seat_47 : decode b_O_seat 47 = .ok (.iconst 0, 1) := by decide +kernel
theorem d_O_seat_48 : decode b_O_seat 48 = .ok (.iload_n 1, 1) := by decide +kernel
theorem d_O_seat_49 : decode b_O_seat 49 = .ok (.iconst 1, 1) := by decide +kernel
theorem d_O_seat_50 : decode b_O_seat 50 = .ok (.isub, 1) := by decide +kernel
theorem d_O_seat_51 : decode b_O_seat 51 = .ok (.invokestatic 43, 3) := by decide +kernel
theorem d_O_seat_54 : decode b_O_seat 54 = .ok (.ifCond .ne 6, 3) := by decide +kernel
theorem d_O_seat_57 : decode b_O_seat 57 = .ok (.ldc 74, 2) := by decide +kernel
theorem d_O_seat_59 : decode b_O_seat 59 = .ok (.ireturn, 1) := by decide +kernel
theorem d_O_seat_60 : decode b_O_seat 60 = .ok (.aload_n 0, 1) := by decide +kernel
theorem d_O_seat_61 : decode b_O_seat 61 = .ok (.getfield 12, 3) := by decide +kernel
theorem d_O_seat_64 : decode b_O_seat 64 = .ok (.iload 4, 2) := by decide +kernel
theorem d_O_seat_66 : decode b_O_seat 66 = .ok (.iload 5, 2) := by decide +kernel
theorem d_O_seat_68 : decode b_O_seat 68 = .ok (.invokevirtual 69, 3) := by decide +kernel
theorem d_O_seat_71 : decode b_O_seat 71 = .ok (.ifCond .ne 6, 3) := by decide +kernel
theorem d_O_seat_74 : decode b_O_seat 74 = .ok (.ldc 48, 2) := by decide +kernel
theorem d_O_seat_76 : decode b_O_seat 76 = .ok (.ireturn, 1) := by decide +kernel
theorem d_O_seat_77 : decode b_O_seat 77 = .ok (.aload_n 0, 1) := by decide +kernel
theorem d_O_seat_78 : decode b_O_seat 78 = .ok (.getfield 12, 3) := by decide +kernel
theorem d_O_seat_81 : decode b_O_seat 81 = .ok (.getfield 75, 3) := by decide +kernel
theorem d_O_seat_84 : decode b_O_seat 84 = .ok (.iload_n 1, 1) := by decide +kernel
theorem d_O_seat_85 : decode b_O_seat 85 = .ok (.aaload, 1) := by decide +kernel
theorem d_O_seat_86 : decode b_O_seat 86 = .ok (.astore 6, 2) := by decide +kernel
theorem d_O_seat_88 : decode b_O_seat 88 = .ok (.aload 6, 2) := by decide +kernel
theorem d_O_seat_90 : decode b_O_seat 90 = .ok (.iload_n 2, 1) := by decide +kernel
theorem d_O_seat_91 : decode b_O_seat 91 = .ok (.iload_n 3, 1) := by decide +kernel
theorem d_O_seat_92 : decode b_O_seat 92 = .ok (.invokevirtual 79, 3) := by decide +kernel
theorem d_O_seat_95 : decode b_O_seat 95 = .ok (.ifCond .ne 6, 3) := by decide +kernel
theorem d_O_seat_98 : decode b_O_seat 98 = .ok (.ldc 74, 2) := by decide +kernel
theorem d_O_seat_100 : decode b_O_seat 100 = .ok (.ireturn, 1) := by decide +kernel
theorem d_O_seat_101 : decode b_O_seat 101 = .ok (.aload 6, 2) := by decide +kernel
theorem d_O_seat_103 : decode b_O_seat 103 = .ok (.getfield 84, 3) := by decide +kernel
theorem d_O_seat_106 : decode b_O_seat 106 = .ok (.iload_n 2, 1) := by decide +kernel
theorem d_O_seat_107 : decode b_O_seat 107 = .ok (.iaload, 1) := by decide +kernel
theorem d_O_seat_108 : decode b_O_seat 108 = .ok (.istore 7, 2) := by decide +kernel
theorem d_O_seat_110 : decode b_O_seat 110 = .ok (.aload 6, 2) := by decide +kernel
theorem d_O_seat_112 : decode b_O_seat 112 = .ok (.iload_n 2, 1) := by decide +kernel
theorem d_O_seat_113 : decode b_O_seat 113 = .ok (.iload_n 3, 1) := by decide +kernel
theorem d_O_seat_114 : decode b_O_seat 114 = .ok (.iload 4, 2) := by decide +kernel
theorem d_O_seat_116 : decode b_O_seat 116 = .ok (.iload 5, 2) := by decide +kernel
theorem d_O_seat_118 : decode b_O_seat 118 = .ok (.invokevirtual 87, 3) := by decide +kernel
theorem d_O_seat_121 : decode b_O_seat 121 = .ok (.iload 7, 2) := by decide +kernel
theorem d_O_seat_123 : decode b_O_seat 123 = .ok (.ireturn, 1) := by decide +kernel
abbrev b_O_about : ByteArray := prog_1_method_5_code
abbrev y_O_about : MethodName := ⟨"OldBeams", "about", "(II)I"⟩
theorem d_O_about_0 : decode b_O_about 0 = .ok (.aload_n 0, 1) := by decide +kernel
theorem d_O_about_1 : decode b_O_about 1 = .ok (.getfield 12, 3) := by decide +kernel
theorem d_O_about_4 : decode b_O_about 4 = .ok (.iload_n 1, 1) := by decide +kernel
theorem d_O_about_5 : decode b_O_about 5 = .ok (.invokevirtual 66, 3) := by decide +kernel
theorem d_O_about_8 : decode b_O_about 8 = .ok (.ifCond .ne 6, 3) := by decide +kernel
theorem d_O_about_11 : decode b_O_about 11 = .ok (.ldc 47, 2) := by decide +kernel
theorem d_O_about_13 : decode b_O_about 13 = .ok (.ireturn, 1) := by decide +kernel
theorem d_O_about_14 : decode b_O_about 14 = .ok (.aload_n 0, 1) := by decide +kernel
theorem d_O_about_15 : decode b_O_about 15 = .ok (.getfield 12, 3) := by decide +kernel
theorem d_O_about_18 : decode b_O_about 18 = .ok (.getfield 75, 3) := by decide +kernel
theorem d_O_about_21 : decode b_O_about 21 = .ok (.iload_n 1, 1) := by decide +kernel
theorem d_O_about_22 : decode b_O_about 22 = .ok (.aaload, 1) := by decide +kernel
theorem d_O_about_23 : decode b_O_about 23 = .ok (.astore_n 3, 1) := by decide +kernel
theorem d_O_about_24 : decode b_O_about 24 = .ok (.iload_n 2, 1) := by decide +kernel
theorem d_O_about_25 : decode b_O_about 25 = .ok (.tableswitch 109 0 7 #[47, 52, 59, 66, 73, 80, 89, 97], 47) := by decide +kernel
theorem d_O_about_72 : decode b_O_about 72 = .ok (.aload_n 3, 1) := by decide +kernel
theorem d_O_about_73 : decode b_O_about 73 = .ok (.getfield 91, 3) := by decide +kernel
theorem d_O_about_76 : decode b_O_about 76 = .ok (.ireturn, 1) := by decide +kernel
theorem d_O_about_77 : decode b_O_about 77 = .ok (.aload_n 3, 1) := by decide +kernel
theorem d_O_about_78 : decode b_O_about 78 = .ok (.getfield 84, 3) := by decide +kernel
theorem d_O_about_81 : decode b_O_about 81 = .ok (.iconst 0, 1) := by decide +kernel
theorem d_O_about_82 : decode b_O_about 82 = .ok (.iaload, 1) := by decide +kernel
theorem d_O_about_83 : decode b_O_about 83 = .ok (.ireturn, 1) := by decide +kernel
theorem d_O_about_84 : decode b_O_about 84 = .ok (.aload_n 3, 1) := by decide +kernel
theorem d_O_about_85 : decode b_O_about 85 = .ok (.getfield 84, 3) := by decide +kernel
theorem d_O_about_88 : decode b_O_about 88 = .ok (.iconst 1, 1) := by decide +kernel
theorem d_O_about_89 : decode b_O_about 89 = .ok (.iaload, 1) := by decide +kernel
theorem d_O_about_90 : decode b_O_about 90 = .ok (.ireturn, 1) := by decide +kernel
theorem d_O_about_91 : decode b_O_about 91 = .ok (.aload_n 3, 1) := by decide +kernel
theorem d_O_about_92 : decode b_O_about 92 = .ok (.getfield 94, 3) := by decide +kernel
theorem d_O_about_95 : decode b_O_about 95 = .ok (.iconst 0, 1) := by decide +kernel
theorem d_O_about_96 : decode b_O_about 96 = .ok (.iaload, 1) := by decide +kernel
theorem d_O_about_97 : decode b_O_about 97 = .ok (.ireturn, 1) := by decide +kernel
theorem d_O_about_98 : decode b_O_about 98 = .ok (.aload_n 3, 1) := by decide +kernel
theorem d_O_about_99 : decode b_O_about 99 = .ok (.getfield 94, 3) := by decide +kernel
theorem d_O_about_102 : decode b_O_about 102 = .ok (.iconst 1, 1) := by decide +kernel
theorem d_O_about_103 : decode b_O_about 103 = .ok (.iaload, 1) := by decide +kernel
theorem d_O_about_104 : decode b_O_about 104 = .ok (.ireturn, 1) := by decide +kernel
theorem d_O_about_105 : decode b_O_about 105 = .ok (.aload_n 0, 1) := by decide +kernel
theorem d_O_about_106 : decode b_O_about 106 = .ok (.getfield 12, 3) := by decide +kernel
theorem d_O_about_109 : decode b_O_about 109 = .ok (.iload_n 1, 1) := by decide +kernel
theorem d_O_about_110 : decode b_O_about 110 = .ok (.invokevirtual 97, 3) := by decide +kernel
theorem d_O_about_113 : decode b_O_about 113 = .ok (.ireturn, 1) := by decide +kernel
theorem d_O_about_114 : decode b_O_about 114 = .ok (.aload_n 3, 1) := by decide +kernel
theorem d_O_about_115 : decode b_O_about 115 = .ok (.getfield 101, 3) := by decide +kernel
theorem d_O_about_118 : decode b_O_about 118 = .ok (.invokestatic 105, 3) := by decide +kernel
theorem d_O_about_121 : decode b_O_about 121 = .ok (.ireturn, 1) := by decide +kernel
theorem d_O_about_122 : decode b_O_about 122 = .ok (.aload_n 0, 1) := by decide +kernel
theorem d_O_about_123 : decode b_O_about 123 = .ok (.getfield 12, 3) := by decide +kernel
theorem d_O_about_126 : decode b_O_about 126 = .ok (.iload_n 1, 1) := by decide +kernel
theorem d_O_about_127 : decode b_O_about 127 = .ok (.invokevirtual 109, 3) := by decide +kernel
theorem d_O_about_130 : decode b_O_about 130 = .ok (.invokestatic 105, 3) := by decide +kernel
theorem d_O_about_133 : decode b_O_about 133 = .ok (.ireturn, 1) := by decide +kernel
theorem d_O_about_134 : decode b_O_about 134 = .ok (.ldc 48, 2) := by decide +kernel
theorem d_O_about_136 : decode b_O_about 136 = .ok (.ireturn, 1) := by decide +kernel
abbrev b_O_asNumber : ByteArray := prog_1_method_42_code
abbrev y_O_asNumber : MethodName := ⟨"OldBeams", "asNumber", "(Z)I"⟩
theorem d_O_asNumber_0 : decode b_O_asNumber 0 = .ok (.iload_n 0, 1) := by decide +kernel
theorem d_O_asNumber_1 : decode b_O_asNumber 1 = .ok (.ifCond .eq 7, 3) := by decide +kernel
theorem d_O_asNumber_4 : decode b_O_asNumber 4 = .ok (.iconst 1, 1) := by decide +kernel
theorem d_O_asNumber_5 : decode b_O_asNumber 5 = .ok (.goto 4, 3) := by decide +kernel
theorem d_O_asNumber_8 : decode b_O_asNumber 8 = .ok (.iconst 0, 1) := by decide +kernel
theorem d_O_asNumber_9 : decode b_O_asNumber 9 = .ok (.ireturn, 1) := by decide +kernel
abbrev b_O_isIn : ByteArray := prog_1_method_41_code
abbrev y_O_isIn : MethodName := ⟨"OldBeams", "isIn", "(II)Z"⟩
theorem d_O_isIn_0 : decode b_O_isIn 0 = .ok (.iload_n 0, 1) := by decide +kernel
theorem d_O_isIn_1 : decode b_O_isIn 1 = .ok (.iload_n 1, 1) := by decide +kernel
theorem d_O_isIn_2 : decode b_O_isIn 2 = .ok (.ishr, 1) := by decide +kernel
theorem d_O_isIn_3 : decode b_O_isIn 3 = .ok (.iconst 1, 1) := by decide +kernel
theorem d_O_isIn_4 : decode b_O_isIn 4 = .ok (.iand, 1) := by decide +kernel
theorem d_O_isIn_5 : decode b_O_isIn 5 = .ok (.ifCond .eq 7, 3) := by decide +kernel
theorem d_O_isIn_8 : decode b_O_isIn 8 = .ok (.iconst 1, 1) := by decide +kernel
theorem d_O_isIn_9 : decode b_O_isIn 9 = .ok (.goto 4, 3) := by decide +kernel
theorem d_O_isIn_12 : decode b_O_isIn 12 = .ok (.iconst 0, 1) := by decide +kernel
theorem d_O_isIn_13 : decode b_O_isIn 13 = .ok (.ireturn, 1) := by decide +kernel
abbrev b_O_wet : ByteArray := prog_1_method_6_code
abbrev y_O_wet : MethodName := ⟨"OldBeams", "wet", "(IZ)I"⟩
theorem d_O_wet_0 : decode b_O_wet 0 = .ok (.aload_n 0, 1) := by decide +kernel
theorem d_O_wet_1 : decode b_O_wet 1 = .ok (.getfield 12, 3) := by decide +kernel
theorem d_O_wet_4 : decode b_O_wet 4 = .ok (.iload_n 1, 1) := by decide +kernel
theorem d_O_wet_5 : decode b_O_wet 5 = .ok (.invokevirtual 66, 3) := by decide +kernel
theorem d_O_wet_8 : decode b_O_wet 8 = .ok (.ifCond .ne 6, 3) := by decide +kernel
theorem d_O_wet_11 : decode b_O_wet 11 = .ok (.ldc 47, 2) := by decide +kernel
theorem d_O_wet_13 : decode b_O_wet 13 = .ok (.ireturn, 1) := by decide +kernel
theorem d_O_wet_14 : decode b_O_wet 14 = .ok (.aload_n 0, 1) := by decide +kernel
theorem d_O_wet_15 : decode b_O_wet 15 = .ok (.getfield 12, 3) := by decide +kernel
theorem d_O_wet_18 : decode b_O_wet 18 = .ok (.getfield 75, 3) := by decide +kernel
theorem d_O_wet_21 : decode b_O_wet 21 = .ok (.iload_n 1, 1) := by decide +kernel
theorem d_O_wet_22 : decode b_O_wet 22 = .ok (.aaload, 1) := by decide +kernel
theorem d_O_wet_23 : decode b_O_wet 23 = .ok (.astore_n 3, 1) := by decide +kernel
theorem d_O_wet_24 : decode b_O_wet 24 = .ok (.aload_n 3, 1) := by decide +kernel
theorem d_O_wet_25 : decode b_O_wet 25 = .ok (.getfield 101, 3) := by decide +kernel
theorem d_O_wet_28 : decode b_O_wet 28 = .ok (.invokestatic 105, 3) := by decide +kernel
theorem d_O_wet_31 : decode b_O_wet 31 = .ok (.istore 4, 2) := by decide +kernel
theorem d_O_wet_33 : decode b_O_wet 33 = .ok (.aload_n 3, 1) := by decide +kernel
theorem d_O_wet_34 : decode b_O_wet 34 = .ok (.iload_n 2, 1) := by decide +kernel
theorem d_O_wet_35 : decode b_O_wet 35 = .ok (.putfield 101, 3) := by decide +kernel
theorem d_O_wet_38 : decode b_O_wet 38 = .ok (.iload 4, 2) := by decide +kernel
theorem d_O_wet_40 : decode b_O_wet 40 = .ok (.ireturn, 1) := by decide +kernel
abbrev b_O_load : ByteArray := prog_1_method_7_code
abbrev y_O_load : MethodName := ⟨"OldBeams", "load", "(III)I"⟩
theorem d_O_load_0 : decode b_O_load 0 = .ok (.aload_n 0, 1) := by decide +kernel
theorem d_O_load_1 : decode b_O_load 1 = .ok (.getfield 12, 3) := by decide +kernel
theorem d_O_load_4 : decode b_O_load 4 = .ok (.iload_n 1, 1) := by decide +kernel
theorem d_O_load_5 : decode b_O_load 5 = .ok (.invokevirtual 66, 3) := by decide +kernel
theorem d_O_load_8 : decode b_O_load 8 = .ok (.ifCond .ne 6, 3) := by decide +kernel
theorem d_O_load_11 : decode b_O_load 11 = .ok (.ldc 47, 2) := by decide +kernel
theorem d_O_load_13 : decode b_O_load 13 = .ok (.ireturn, 1) := by decide +kernel
theorem d_O_load_14 : decode b_O_load 14 = .ok (.aload_n 0, 1) := by decide +kernel
theorem d_O_load_15 : decode b_O_load 15 = .ok (.getfield 12, 3) := by decide +kernel
theorem d_O_load_18 : decode b_O_load 18 = .ok (.iload_n 1, 1) := by decide +kernel
theorem d_O_load_19 : decode b_O_load 19 = .ok (.iload_n 2, 1) := by decide +kernel
theorem d_O_load_20 : decode b_O_load 20 = .ok (.invokevirtual 69, 3) := by decide +kernel
theorem d_O_load_23 : decode b_O_load 23 = .ok (.ifCond .eq 14, 3) := by decide +kernel
theorem d_O_load_26 : decode b_O_load 26 = .ok (.iload_n 3, 1) := by decide +kernel
theorem d_O_load_27 : decode b_O_load 27 = .ok (.iconst 1, 1) := by decide +kernel
theorem d_O_load_28 : decode b_O_load 28 = .ok (.sipush 9999, 3) := by decide +kernel
theorem d_O_load_31 : decode b_O_load 31 = .ok (.invokestatic 43, 3) := by decide +kernel
theorem d_O_load_34 : decode b_O_load 34 = .ok (.ifCond .ne 6, 3) := by decide +kernel
theorem d_O_load_37 : decode b_O_load 37 = .ok (.ldc 48, 2) := by decide +kernel
theorem d_O_load_39 : decode b_O_load 39 = .ok (.ireturn, 1) := by decide +kernel
theorem d_O_load_40 : decode b_O_load 40 = .ok (.aload_n 0, 1) := by decide +kernel
theorem d_O_load_41 : decode b_O_load 41 = .ok (.getfield 12, 3) := by decide +kernel
theorem d_O_load_44 : decode b_O_load 44 = .ok (.getfield 112, 3) := by decide +kernel
theorem d_O_load_47 : decode b_O_load 47 = .ok (.bipush 40, 2) := by decide +kernel
theorem d_O_load_49 : decode b_O_load 49 = .ok (.if_icmp .lt 6, 3) := by decide +kernel
theorem d_O_load_52 : decode b_O_load 52 = .ok (.ldc 61, 2) := by decide +kernel
theorem d_O_load_54 : decode b_O_load 54 = .ok (.ireturn, 1) := by decide +kernel
theorem d_O_load_55 : decode b_O_load 55 = .ok (.aload_n 0, 1) := by decide +kernel
theorem d_O_load_56 : decode b_O_load 56 = .ok (.getfield 12, 3) := by decide +kernel
theorem d_O_load_59 : decode b_O_load 59 = .ok (.iload_n 1, 1) := by decide +kernel
theorem d_O_load_60 : decode b_O_load 60 = .ok (.iload_n 2, 1) := by decide +kernel
theorem d_O_load_61 : decode b_O_load 61 = .ok (.iload_n 3, 1) := by decide +kernel
theorem d_O_load_62 : decode b_O_load 62 = .ok (.invokevirtual 115, 3) := by decide +kernel
theorem d_O_load_65 : decode b_O_load 65 = .ok (.ireturn, 1) := by decide +kernel
abbrev b_O_takeOff : ByteArray := prog_1_method_8_code
abbrev y_O_takeOff : MethodName := ⟨"OldBeams", "takeOff", "(I)I"⟩
theorem d_O_takeOff_0 : decode b_O_takeOff 0 = .ok (.iload_n 1, 1) := by decide +kernel
theorem d_O_takeOff_1 : decode b_O_takeOff 1 = .ok (.iconst 0, 1) := by decide +kernel
theorem d_O_takeOff_2 : decode b_O_takeOff 2 = .ok (.aload_n 0, 1) := by decide +kernel
theorem d_O_takeOff_3 : decode b_O_takeOff 3 = .ok (.getfield 12, 3) := by decide +kernel
theorem d_O_takeOff_6 : decode b_O_takeOff 6 = .ok (.getfield 112, 3) := by decide +kernel
theorem d_O_takeOff_9 : decode b_O_takeOff 9 = .ok (.iconst 1, 1) := by decide +kernel
theorem d_O_takeOff_10 : decode b_O_takeOff 10 = .ok (.isub, 1) := by decide +kernel
theorem d_O_takeOff_11 : decode b_O_takeOff 11 = .ok (.invokestatic 43, 3) := by decide +kernel
theorem d_O_takeOff_14 : decode b_O_takeOff 14 = .ok (.ifCond .ne 6, 3) := by decide +kernel
theorem d_O_takeOff_17 : decode b_O_takeOff 17 = .ok (.ldc 47, 2) := by decide +kernel
theorem d_O_takeOff_19 : decode b_O_takeOff 19 = .ok (.ireturn, 1) := by decide +kernel
theorem d_O_takeOff_20 : decode b_O_takeOff 20 = .ok (.aload_n 0, 1) := by decide +kernel
theorem d_O_takeOff_21 : decode b_O_takeOff 21 = .ok (.getfield 12, 3) := by decide +kernel
theorem d_O_takeOff_24 : decode b_O_takeOff 24 = .ok (.getfield 119, 3) := by decide +kernel
theorem d_O_takeOff_27 : decode b_O_takeOff 27 = .ok (.iload_n 1, 1) := by decide +kernel
theorem d_O_takeOff_28 : decode b_O_takeOff 28 = .ok (.baload, 1) := by decide +kernel
theorem d_O_takeOff_29 : decode b_O_takeOff 29 = .ok (.ifCond .ne 6, 3) := by decide +kernel
theorem d_O_takeOff_32 : decode b_O_takeOff 32 = .ok (.ldc 74, 2) := by decide +kernel
theorem d_O_takeOff_34 : decode b_O_takeOff 34 = .ok (.ireturn, 1) := by decide +kernel
theorem d_O_takeOff_35 : decode b_O_takeOff 35 = .ok (.aload_n 0, 1) := by decide +kernel
theorem d_O_takeOff_36 : decode b_O_takeOff 36 = .ok (.getfield 12, 3) := by decide +kernel
theorem d_O_takeOff_39 : decode b_O_takeOff 39 = .ok (.iload_n 1, 1) := by decide +kernel
theorem d_O_takeOff_40 : decode b_O_takeOff 40 = .ok (.invokevirtual 123, 3) := by decide +kernel
theorem d_O_takeOff_43 : decode b_O_takeOff 43 = .ok (.aload_n 0, 1) := by decide +kernel
theorem d_O_takeOff_44 : decode b_O_takeOff 44 = .ok (.getfield 12, 3) := by decide +kernel
theorem d_O_takeOff_47 : decode b_O_takeOff 47 = .ok (.getfield 127, 3) := by decide +kernel
theorem d_O_takeOff_50 : decode b_O_takeOff 50 = .ok (.iload_n 1, 1) := by decide +kernel
theorem d_O_takeOff_51 : decode b_O_takeOff 51 = .ok (.iaload, 1) := by decide +kernel
theorem d_O_takeOff_52 : decode b_O_takeOff 52 = .ok (.ireturn, 1) := by decide +kernel
abbrev b_O_fall : ByteArray := prog_1_method_9_code
abbrev y_O_fall : MethodName := ⟨"OldBeams", "fall", "(I)I"⟩
theorem d_O_fall_0 : decode b_O_fall 0 = .ok (.aload_n 0, 1) := by decide +kernel
theorem d_O_fall_1 : decode b_O_fall 1 = .ok (.getfield 12, 3) := by decide +kernel
theorem d_O_fall_4 : decode b_O_fall 4 = .ok (.iload_n 1, 1) := by decide +kernel
theorem d_O_fall_5 : decode b_O_fall 5 = .ok (.invokevirtual 66, 3) := by decide +kernel
theorem d_O_fall_8 : decode b_O_fall 8 = .ok (.ifCond .ne 6, 3) := by decide +kernel
theorem d_O_fall_11 : decode b_O_fall 11 = .ok (.ldc 47, 2) := by decide +kernel
theorem d_O_fall_13 : decode b_O_fall 13 = .ok (.ireturn, 1) := by decide +kernel
theorem d_O_fall_14 : decode b_O_fall 14 = .ok (.aload_n 0, 1) := by decide +kernel
theorem d_O_fall_15 : decode b_O_fall 15 = .ok (.getfield 12, 3) := by decide +kernel
theorem d_O_fall_18 : decode b_O_fall 18 = .ok (.getfield 130, 3) := by decide +kernel
theorem d_O_fall_21 : decode b_O_fall 21 = .ok (.iload_n 1, 1) := by decide +kernel
theorem d_O_fall_22 : decode b_O_fall 22 = .ok (.invokestatic 133, 3) := by decide +kernel
theorem d_O_fall_25 : decode b_O_fall 25 = .ok (.ifCond .eq 6, 3) := by decide +kernel
theorem d_O_fall_28 : decode b_O_fall 28 = .ok (.ldc 74, 2) := by decide +kernel
theorem d_O_fall_30 : decode b_O_fall 30 = .ok (.ireturn, 1) := by decide +kernel
theorem d_O_fall_31 : decode b_O_fall 31 = .ok (.aload_n 0, 1) := by decide +kernel
theorem d_O_fall_32 : decode b_O_fall 32 = .ok (.getfield 12, 3) := by decide +kernel
theorem d_O_fall_35 : decode b_O_fall 35 = .ok (.dup, 1) := by decide +kernel
theorem d_O_fall_36 : decode b_O_fall 36 = .ok (.getfield 130, 3) := by decide +kernel
theorem d_O_fall_39 : decode b_O_fall 39 = .ok (.iconst 1, 1) := by decide +kernel
theorem d_O_fall_40 : decode b_O_fall 40 = .ok (.iload_n 1, 1) := by decide +kernel
theorem d_O_fall_41 : decode b_O_fall 41 = .ok (.ishl, 1) := by decide +kernel
theorem d_O_fall_42 : decode b_O_fall 42 = .ok (.ior, 1) := by decide +kernel
theorem d_O_fall_43 : decode b_O_fall 43 = .ok (.putfield 130, 3) := by decide +kernel
theorem d_O_fall_46 : decode b_O_fall 46 = .ok (.aload_n 0, 1) := by decide +kernel
theorem d_O_fall_47 : decode b_O_fall 47 = .ok (.getfield 12, 3) := by decide +kernel
theorem d_O_fall_50 : decode b_O_fall 50 = .ok (.aload_n 0, 1) := by decide +kernel
theorem d_O_fall_51 : decode b_O_fall 51 = .ok (.getfield 12, 3) := by decide +kernel
theorem d_O_fall_54 : decode b_O_fall 54 = .ok (.getfield 130, 3) := by decide +kernel
theorem d_O_fall_57 : decode b_O_fall 57 = .ok (.invokevirtual 136, 3) := by decide +kernel
theorem d_O_fall_60 : decode b_O_fall 60 = .ok (.invokestatic 139, 3) := by decide +kernel
theorem d_O_fall_63 : decode b_O_fall 63 = .ok (.ireturn, 1) := by decide +kernel
abbrev b_O_push : ByteArray := prog_1_method_10_code
abbrev y_O_push : MethodName := ⟨"OldBeams", "push", "(II)J"⟩
theorem d_O_push_0 : decode b_O_push 0 = .ok (.aload_n 0, 1) := by decide +kernel
theorem d_O_push_1 : decode b_O_push 1 = .ok (.iload_n 1, 1) := by decide +kernel
theorem d_O_push_2 : decode b_O_push 2 = .ok (.iload_n 2, 1) := by decide +kernel
theorem d_O_push_3 : decode b_O_push 3 = .ok (.iconst 0, 1) := by decide +kernel
theorem d_O_push_4 : decode b_O_push 4 = .ok (.iconst 1, 1) := by decide +kernel
theorem d_O_push_5 : decode b_O_push 5 = .ok (.invokestatic 43, 3) := by decide +kernel
theorem d_O_push_8 : decode b_O_push 8 = .ok (.invokevirtual 144, 3) := by decide +kernel
theorem d_O_push_11 : decode b_O_push 11 = .ok (.istore_n 3, 1) := by decide +kernel
theorem d_O_push_12 : decode b_O_push 12 = .ok (.iload_n 3, 1) := by decide +kernel
theorem d_O_push_13 : decode b_O_push 13 = .ok (.ifCond .eq 6, 3) := by decide +kernel
theorem d_O_push_16 : decode b_O_push 16 = .ok (.iload_n 3, 1) := by decide +kernel
theorem d_O_push_17 : decode b_O_push 17 = .ok (.i2l, 1) := by decide +kernel
theorem d_O_push_18 : decode b_O_push 18 = .ok (.lreturn, 1) := by decide +kernel
theorem d_O_push_19 : decode b_O_push 19 = .ok (.aload_n 0, 1) := by decide +kernel
theorem d_O_push_20 : decode b_O_push 20 = .ok (.getfield 12, 3) := by decide +kernel
theorem d_O_push_23 : decode b_O_push 23 = .ok (.invokevirtual 148, 3) := by decide +kernel
theorem d_O_push_26 : decode b_O_push 26 = .ok (.aload_n 0, 1) := by decide +kernel
theorem d_O_push_27 : decode b_O_push 27 = .ok (.getfield 12, 3) := by decide +kernel
theorem d_O_push_30 : decode b_O_push 30 = .ok (.getfield 75, 3) := by decide +kernel
theorem d_O_push_33 : decode b_O_push 33 = .ok (.iload_n 1, 1) := by decide +kernel
theorem d_O_push_34 : decode b_O_push 34 = .ok (.aaload, 1) := by decide +kernel
theorem d_O_push_35 : decode b_O_push 35 = .ok (.getfield 151, 3) := by decide +kernel
theorem d_O_push_38 : decode b_O_push 38 = .ok (.iload_n 2, 1) := by decide +kernel
theorem d_O_push_39 : decode b_O_push 39 = .ok (.laload, 1) := by decide +kernel
theorem d_O_push_40 : decode b_O_push 40 = .ok (.lreturn, 1) := by decide +kernel
abbrev b_O_refusal : ByteArray := prog_1_method_43_code
abbrev y_O_refusal : MethodName := ⟨"OldBeams", "refusal", "(IZ)I"⟩
theorem d_O_refusal_0 : decode b_O_refusal 0 = .ok (.aload_n 0, 1) := by decide +kernel
theorem d_O_refusal_1 : decode b_O_refusal 1 = .ok (.getfield 12, 3) := by decide +kernel
theorem d_O_refusal_4 : decode b_O_refusal 4 = .ok (.iload_n 1, 1) := by decide +kernel
theorem d_O_refusal_5 : decode b_O_refusal 5 = .ok (.invokevirtual 66, 3) := by decide +kernel
theorem d_O_refusal_8 : decode b_O_refusal 8 = .ok (.ifCond .ne 6, 3) := by decide +kernel
theorem d_O_refusal_11 : decode b_O_refusal 11 = .ok (.ldc 47, 2) := by decide +kernel
theorem d_O_refusal_13 : decode b_O_refusal 13 = .ok (.ireturn, 1) := by decide +kernel
theorem d_O_refusal_14 : decode b_O_refusal 14 = .ok (.iload_n 2, 1) := by decide +kernel
theorem d_O_refusal_15 : decode b_O_refusal 15 = .ok (.ifCond .ne 6, 3) := by decide +kernel
theorem d_O_refusal_18 : decode b_O_refusal 18 = .ok (.ldc 48, 2) := by decide +kernel
theorem d_O_refusal_20 : decode b_O_refusal 20 = .ok (.ireturn, 1) := by decide +kernel
theorem d_O_refusal_21 : decode b_O_refusal 21 = .ok (.aload_n 0, 1) := by decide +kernel
theorem d_O_refusal_22 : decode b_O_refusal 22 = .ok (.getfield 12, 3) := by decide +kernel
theorem d_O_refusal_25 : decode b_O_refusal 25 = .ok (.iload_n 1, 1) := by decide +kernel
theorem d_O_refusal_26 : decode b_O_refusal 26 = .ok (.invokevirtual 109, 3) := by decide +kernel
theorem d_O_refusal_29 : decode b_O_refusal 29 = .ok (.ifCond .eq 6, 3) := by decide +kernel
theorem d_O_refusal_32 : decode b_O_refusal 32 = .ok (.ldc 74, 2) := by decide +kernel
theorem d_O_refusal_34 : decode b_O_refusal 34 = .ok (.ireturn, 1) := by decide +kernel
theorem d_O_refusal_35 : decode b_O_refusal 35 = .ok (.iconst 0, 1) := by decide +kernel
theorem d_O_refusal_36 : decode b_O_refusal 36 = .ok (.ireturn, 1) := by decide +kernel
abbrev b_O_bending : ByteArray := prog_1_method_11_code
abbrev y_O_bending : MethodName := ⟨"OldBeams", "bending", "(II)J"⟩
theorem d_O_bending_0 : decode b_O_bending 0 = .ok (.aload_n 0, 1) := by decide +kernel
theorem d_O_bending_1 : decode b_O_bending 1 = .ok (.iload_n 1, 1) := by decide +kernel
theorem d_O_bending_2 : decode b_O_bending 2 = .ok (.aload_n 0, 1) := by decide +kernel
theorem d_O_bending_3 : decode b_O_bending 3 = .ok (.getfield 12, 3) := by decide +kernel
theorem d_O_bending_6 : decode b_O_bending 6 = .ok (.iload_n 1, 1) := by decide +kernel
theorem d_O_bending_7 : decode b_O_bending 7 = .ok (.iload_n 2, 1) := by decide +kernel
theorem d_O_bending_8 : decode b_O_bending 8 = .ok (.invokevirtual 69, 3) := by decide +kernel
theorem d_O_bending_11 : decode b_O_bending 11 = .ok (.invokevirtual 144, 3) := by decide +kernel
theorem d_O_bending_14 : decode b_O_bending 14 = .ok (.istore_n 3, 1) := by decide +kernel
theorem d_O_bending_15 : decode b_O_bending 15 = .ok (.iload_n 3, 1) := by decide +kernel
theorem d_O_bending_16 : decode b_O_bending 16 = .ok (.ifCond .eq 6, 3) := by decide +kernel
theorem d_O_bending_19 : decode b_O_bending 19 = .ok (.iload_n 3, 1) := by decide +kernel
theorem d_O_bending_20 : decode b_O_bending 20 = .ok (.i2l, 1) := by decide +kernel
theorem d_O_bending_21 : decode b_O_bending 21 = .ok (.lreturn, 1) := by decide +kernel
theorem d_O_bending_22 : decode b_O_bending 22 = .ok (.aload_n 0, 1) := by decide +kernel
theorem d_O_bending_23 : decode b_O_bending 23 = .ok (.getfield 12, 3) := by decide +kernel
theorem d_O_bending_26 : decode b_O_bending 26 = .ok (.invokevirtual 148, 3) := by decide +kernel
theorem d_O_bending_29 : decode b_O_bending 29 = .ok (.aload_n 0, 1) := by decide +kernel
theorem d_O_bending_30 : decode b_O_bending 30 = .ok (.getfield 12, 3) := by decide +kernel
theorem d_O_bending_33 : decode b_O_bending 33 = .ok (.getfield 75, 3) := by decide +kernel
theorem d_O_bending_36 : decode b_O_bending 36 = .ok (.iload_n 1, 1) := by decide +kernel
theorem d_O_bending_37 : decode b_O_bending 37 = .ok (.aaload, 1) := by decide +kernel
theorem d_O_bending_38 : decode b_O_bending 38 = .ok (.iload_n 2, 1) := by decide +kernel
theorem d_O_bending_39 : decode b_O_bending 39 = .ok (.invokevirtual 155, 3) := by decide +kernel
theorem d_O_bending_42 : decode b_O_bending 42 = .ok (.lreturn, 1) := by decide +kernel
abbrev b_O_greatest : ByteArray := prog_1_method_12_code
abbrev y_O_greatest : MethodName := ⟨"OldBeams", "greatest", "(IZ)J"⟩
theorem d_O_greatest_0 : decode b_O_greatest 0 = .ok (.aload_n 0, 1) := by decide +kernel
theorem d_O_greatest_1 : decode b_O_greatest 1 = .ok (.iload_n 1, 1) := by decide +kernel
theorem d_O_greatest_2 : decode b_O_greatest 2 = .ok (.iconst 1, 1) := by decide +kernel
theorem d_O_greatest_3 : decode b_O_greatest 3 = .ok (.invokevirtual 144, 3) := by decide +kernel
theorem d_O_greatest_6 : decode b_O_greatest 6 = .ok (.istore_n 3, 1) := by decide +kernel
theorem d_O_greatest_7 : decode b_O_greatest 7 = .ok (.iload_n 3, 1) := by decide +kernel
theorem d_O_greatest_8 : decode b_O_greatest 8 = .ok (.ifCond .eq 6, 3) := by decide +kernel
theorem d_O_greatest_11 : decode b_O_greatest 11 = .ok (.iload_n 3, 1) := by decide +kernel
theorem d_O_greatest_12 : decode b_O_greatest 12 = .ok (.i2l, 1) := by decide +kernel
theorem d_O_greatest_13 : decode b_O_greatest 13 = .ok (.lreturn, 1) := by decide +kernel
theorem d_O_greatest_14 : decode b_O_greatest 14 = .ok (.aload_n 0, 1) := by decide +kernel
theorem d_O_greatest_15 : decode b_O_greatest 15 = .ok (.getfield 12, 3) := by decide +kernel
theorem d_O_greatest_18 : decode b_O_greatest 18 = .ok (.invokevirtual 148, 3) := by decide +kernel
theorem d_O_greatest_21 : decode b_O_greatest 21 = .ok (.aload_n 0, 1) := by decide +kernel
theorem d_O_greatest_22 : decode b_O_greatest 22 = .ok (.getfield 12, 3) := by decide +kernel
theorem d_O_greatest_25 : decode b_O_greatest 25 = .ok (.getfield 75, 3) := by decide +kernel
theorem d_O_greatest_28 : decode b_O_greatest 28 = .ok (.iload_n 1, 1) := by decide +kernel
theorem d_O_greatest_29 : decode b_O_greatest 29 = .ok (.aaload, 1) := by decide +kernel
theorem d_O_greatest_30 : decode b_O_greatest 30 = .ok (.astore 4, 2) := by decide +kernel
theorem d_O_greatest_32 : decode b_O_greatest 32 = .ok (.iload_n 2, 1) := by decide +kernel
theorem d_O_greatest_33 : decode b_O_greatest 33 = .ok (.ifCond .eq 12, 3) := by decide +kernel
theorem d_O_greatest_36 : decode b_O_greatest 36 = .ok (.aload 4, 2) := by decide +kernel
theorem d_O_greatest_38 : decode b_O_greatest 38 = .ok (.getfield 159, 3) := by decide +kernel
theorem d_O_greatest_41 : decode b_O_greatest 41 = .ok (.i2l, 1) := by decide +kernel
theorem d_O_greatest_42 : decode b_O_greatest 42 = .ok (.goto 8, 3) := by decide +kernel
theorem d_O_greatest_45 : decode b_O_greatest 45 = .ok (.aload 4, 2) := by decide +kernel
theorem d_O_greatest_47 : decode b_O_greatest 47 = .ok (.getfield 162, 3) := by decide +kernel
theorem d_O_greatest_50 : decode b_O_greatest 50 = .ok (.lreturn, 1) := by decide +kernel
abbrev b_O_lifts : ByteArray := prog_1_method_13_code
abbrev y_O_lifts : MethodName := ⟨"OldBeams", "lifts", "(I)I"⟩
theorem d_O_lifts_0 : decode b_O_lifts 0 = .ok (.aload_n 0, 1) := by decide +kernel
theorem d_O_lifts_1 : decode b_O_lifts 1 = .ok (.iload_n 1, 1) := by decide +kernel
theorem d_O_lifts_2 : decode b_O_lifts 2 = .ok (.iconst 1, 1) := by decide +kernel
theorem d_O_lifts_3 : decode b_O_lifts 3 = .ok (.invokevirtual 144, 3) := by decide +kernel
theorem d_O_lifts_6 : decode b_O_lifts 6 = .ok (.istore_n 2, 1) := by decide +kernel
theorem d_O_lifts_7 : decode b_O_lifts 7 = .ok (.iload_n 2, 1) := by decide +kernel
theorem d_O_lifts_8 : decode b_O_lifts 8 = .ok (.ifCond .eq 5, 3) := by decide +kernel
theorem d_O_lifts_11 : decode b_O_lifts 11 = .ok (.iload_n 2, 1) := by decide +kernel
theorem d_O_lifts_12 : decode b_O_lifts 12 = .ok (.ireturn, 1) := by decide +kernel
theorem d_O_lifts_13 : decode b_O_lifts 13 = .ok (.aload_n 0, 1) := by decide +kernel
theorem d_O_lifts_14 : decode b_O_lifts 14 = .ok (.getfield 12, 3) := by decide +kernel
theorem d_O_lifts_17 : decode b_O_lifts 17 = .ok (.invokevirtual 148, 3) := by decide +kernel
theorem d_O_lifts_20 : decode b_O_lifts 20 = .ok (.aload_n 0, 1) := by decide +kernel
theorem d_O_lifts_21 : decode b_O_lifts 21 = .ok (.getfield 12, 3) := by decide +kernel
theorem d_O_lifts_24 : decode b_O_lifts 24 = .ok (.getfield 75, 3) := by decide +kernel
theorem d_O_lifts_27 : decode b_O_lifts 27 = .ok (.iload_n 1, 1) := by decide +kernel
theorem d_O_lifts_28 : decode b_O_lifts 28 = .ok (.aaload, 1) := by decide +kernel
theorem d_O_lifts_29 : decode b_O_lifts 29 = .ok (.invokevirtual 166, 3) := by decide +kernel
theorem d_O_lifts_32 : decode b_O_lifts 32 = .ok (.invokestatic 105, 3) := by decide +kernel
theorem d_O_lifts_35 : decode b_O_lifts 35 = .ok (.ireturn, 1) := by decide +kernel
abbrev b_O_holds : ByteArray := prog_1_method_14_code
abbrev y_O_holds : MethodName := ⟨"OldBeams", "holds", "(II)I"⟩
theorem d_O_holds_0 : decode b_O_holds 0 = .ok (.aload_n 0, 1) := by decide +kernel
theorem d_O_holds_1 : decode b_O_holds 1 = .ok (.iload_n 1, 1) := by decide +kernel
theorem d_O_holds_2 : decode b_O_holds 2 = .ok (.iload_n 2, 1) := by decide +kernel
theorem d_O_holds_3 : decode b_O_holds 3 = .ok (.iconst 0, 1) := by decide +kernel
theorem d_O_holds_4 : decode b_O_holds 4 = .ok (.bipush 10, 2) := by decide +kernel
theorem d_O_holds_6 : decode b_O_holds 6 = .ok (.invokestatic 43, 3) := by decide +kernel
theorem d_O_holds_9 : decode b_O_holds 9 = .ok (.invokevirtual 144, 3) := by decide +kernel
theorem d_O_holds_12 : decode b_O_holds 12 = .ok (.istore_n 3, 1) := by decide +kernel
theorem d_O_holds_13 : decode b_O_holds 13 = .ok (.iload_n 3, 1) := by decide +kernel
theorem d_O_holds_14 : decode b_O_holds 14 = .ok (.ifCond .eq 5, 3) := by decide +kernel
theorem d_O_holds_17 : decode b_O_holds 17 = .ok (.iload_n 3, 1) := by decide +kernel
theorem d_O_holds_18 : decode b_O_holds 18 = .ok (.ireturn, 1) := by decide +kernel
theorem d_O_holds_19 : decode b_O_holds 19 = .ok (.aload_n 0, 1) := by decide +kernel
theorem d_O_holds_20 : decode b_O_holds 20 = .ok (.getfield 12, 3) := by decide +kernel
theorem d_O_holds_23 : decode b_O_holds 23 = .ok (.invokevirtual 148, 3) := by decide +kernel
theorem d_O_holds_26 : decode b_O_holds 26 = .ok (.aload_n 0, 1) := by decide +kernel
theorem d_O_holds_27 : decode b_O_holds 27 = .ok (.getfield 12, 3) := by decide +kernel
theorem d_O_holds_30 : decode b_O_holds 30 = .ok (.iload_n 1, 1) := by decide +kernel
theorem d_O_holds_31 : decode b_O_holds 31 = .ok (.iload_n 2, 1) := by decide +kernel
theorem d_O_holds_32 : decode b_O_holds 32 = .ok (.invokevirtual 170, 3) := by decide +kernel
theorem d_O_holds_35 : decode b_O_holds 35 = .ok (.invokestatic 105, 3) := by decide +kernel
theorem d_O_holds_38 : decode b_O_holds 38 = .ok (.ireturn, 1) := by decide +kernel
abbrev b_O_needs : ByteArray := prog_1_method_15_code
abbrev y_O_needs : MethodName := ⟨"OldBeams", "needs", "(I)I"⟩
theorem d_O_needs_0 : decode b_O_needs 0 = .ok (.aload_n 0, 1) := by decide +kernel
theorem d_O_needs_1 : decode b_O_needs 1 = .ok (.iload_n 1, 1) := by decide +kernel
theorem d_O_needs_2 : decode b_O_needs 2 = .ok (.iconst 1, 1) := by decide +kernel
theorem d_O_needs_3 : decode b_O_needs 3 = .ok (.invokevirtual 144, 3) := by decide +kernel
theorem d_O_needs_6 : decode b_O_needs 6 = .ok (.istore_n 2, 1) := by decide +kernel
theorem d_O_needs_7 : decode b_O_needs 7 = .ok (.iload_n 2, 1) := by decide +kernel
theorem d_O_needs_8 : decode b_O_needs 8 = .ok (.ifCond .eq 5, 3) := by decide +kernel
theorem d_O_needs_11 : decode b_O_needs 11 = .ok (.iload_n 2, 1) := by decide +kernel
theorem d_O_needs_12 : decode b_O_needs 12 = .ok (.ireturn, 1) := by decide +kernel
theorem d_O_needs_13 : decode b_O_needs 13 = .ok (.aload_n 0, 1) := by decide +kernel
theorem d_O_needs_14 : decode b_O_needs 14 = .ok (.getfield 12, 3) := by decide +kernel
theorem d_O_needs_17 : decode b_O_needs 17 = .ok (.invokevirtual 148, 3) := by decide +kernel
theorem d_O_needs_20 : decode b_O_needs 20 = .ok (.iconst 0, 1) := by decide +kernel
theorem d_O_needs_21 : decode b_O_needs 21 = .ok (.istore_n 3, 1) := by decide +kernel
theorem d_O_needs_22 : decode b_O_needs 22 = .ok (.iload_n 3, 1) := by decide +kernel
theorem d_O_needs_23 : decode b_O_needs 23 = .ok (.bipush 11, 2) := by decide +kernel
theorem d_O_needs_25 : decode b_O_needs 25 = .ok (.if_icmp .ge 23, 3) := by decide +kernel
theorem d_O_needs_28 : decode b_O_needs 28 = .ok (.aload_n 0, 1) := by decide +kernel
theorem d_O_needs_29 : decode b_O_needs 29 = .ok (.getfield 12, 3) := by decide +kernel
theorem d_O_needs_32 : decode b_O_needs 32 = .ok (.iload_n 1, 1) := by decide +kernel
theorem d_O_needs_33 : decode b_O_needs 33 = .ok (.iload_n 3, 1) := by decide +kernel
theorem d_O_needs_34 : decode b_O_needs 34 = .ok (.invokevirtual 170, 3) := by decide +kernel
theorem d_O_needs_37 : decode b_O_needs 37 = .ok (.ifCond .eq 5, 3) := by decide +kernel
theorem d_O_needs_40 : decode b_O_needs 40 = .ok (.iload_n 3, 1) := by decide +kernel
theorem d_O_needs_41 : decode b_O_needs 41 = .ok (.ireturn, 1) := by decide +kernel
theorem d_O_needs_42 : decode b_O_needs 42 = .ok (.iinc 3 1, 3) := by decide +kernel
theorem d_O_needs_45 : decode b_O_needs 45 = .ok (.goto (-23), 3) := by decide +kernel
theorem d_O_needs_48 : decode b_O_needs 48 = .ok (.ldc 73, 2) := by decide +kernel
theorem d_O_needs_50 : decode b_O_needs 50 = .ok (.ireturn, 1) := by decide +kernel
abbrev b_O_weight : ByteArray := prog_1_method_16_code
abbrev y_O_weight : MethodName := ⟨"OldBeams", "weight", "(III)I"⟩
theorem d_O_weight_0 : decode b_O_weight 0 = .ok (.aload_n 0, 1) := by decide +kernel
theorem d_O_weight_1 : decode b_O_weight 1 = .ok (.getfield 12, 3) := by decide +kernel
theorem d_O_weight_4 : decode b_O_weight 4 = .ok (.iload_n 1, 1) := by decide +kernel
theorem d_O_weight_5 : decode b_O_weight 5 = .ok (.invokevirtual 66, 3) := by decide +kernel
theorem d_O_weight_8 : decode b_O_weight 8 = .ok (.ifCond .ne 6, 3) := by decide +kernel
theorem d_O_weight_11 : decode b_O_weight 11 = .ok (.ldc 47, 2) := by decide +kernel
theorem d_O_weight_13 : decode b_O_weight 13 = .ok (.ireturn, 1) := by decide +kernel
theorem d_O_weight_14 : decode b_O_weight 14 = .ok (.iload_n 2, 1) := by decide +kernel
theorem d_O_weight_15 : decode b_O_weight 15 = .ok (.iconst 0, 1) := by decide +kernel
theorem d_O_weight_16 : decode b_O_weight 16 = .ok (.bipush 10, 2) := by decide +kernel
theorem d_O_weight_18 : decode b_O_weight 18 = .ok (.invokestatic 43, 3) := by decide +kernel
theorem d_O_weight_21 : decode b_O_weight 21 = .ok (.ifCond .eq 13, 3) := by decide +kernel
theorem d_O_weight_24 : decode b_O_weight 24 = .ok (.iload_n 3, 1) := by decide +kernel
theorem d_O_weight_25 : decode b_O_weight 25 = .ok (.iconst 0, 1) := by decide +kernel
theorem d_O_weight_26 : decode b_O_weight 26 = .ok (.bipush 99, 2) := by decide +kernel
theorem d_O_weight_28 : decode b_O_weight 28 = .ok (.invokestatic 43, 3) := by decide +kernel
theorem d_O_weight_31 : decode b_O_weight 31 = .ok (.ifCond .ne 6, 3) := by decide +kernel
theorem d_O_weight_34 : decode b_O_weight 34 = .ok (.ldc 48, 2) := by decide +kernel
theorem d_O_weight_36 : decode b_O_weight 36 = .ok (.ireturn, 1) := by decide +kernel
theorem d_O_weight_37 : decode b_O_weight 37 = .ok (.aload_n 0, 1) := by decide +kernel
theorem d_O_weight_38 : decode b_O_weight 38 = .ok (.getfield 19, 3) := by decide +kernel
theorem d_O_weight_41 : decode b_O_weight 41 = .ok (.iload_n 1, 1) := by decide +kernel
theorem d_O_weight_42 : decode b_O_weight 42 = .ok (.invokevirtual 173, 3) := by decide +kernel
theorem d_O_weight_45 : decode b_O_weight 45 = .ok (.ifCond .gt 16, 3) := by decide +kernel
theorem d_O_weight_48 : decode b_O_weight 48 = .ok (.aload_n 0, 1) := by decide +kernel
theorem d_O_weight_49 : decode b_O_weight 49 = .ok (.getfield 19, 3) := by decide +kernel
theorem d_O_weight_52 : decode b_O_weight 52 = .ok (.iload_n 1, 1) := by decide +kernel
theorem d_O_weight_53 : decode b_O_weight 53 = .ok (.iload_n 2, 1) := by decide +kernel
theorem d_O_weight_54 : decode b_O_weight 54 = .ok (.iload_n 3, 1) := by decide +kernel
theorem d_O_weight_55 : decode b_O_weight 55 = .ok (.invokevirtual 176, 3) := by decide +kernel
theorem d_O_weight_58 : decode b_O_weight 58 = .ok (.ifCond .ne 6, 3) := by decide +kernel
theorem d_O_weight_61 : decode b_O_weight 61 = .ok (.ldc 74, 2) := by decide +kernel
theorem d_O_weight_63 : decode b_O_weight 63 = .ok (.ireturn, 1) := by decide +kernel
theorem d_O_weight_64 : decode b_O_weight 64 = .ok (.aload_n 0, 1) := by decide +kernel
theorem d_O_weight_65 : decode b_O_weight 65 = .ok (.getfield 19, 3) := by decide +kernel
theorem d_O_weight_68 : decode b_O_weight 68 = .ok (.getfield 179, 3) := by decide +kernel
theorem d_O_weight_71 : decode b_O_weight 71 = .ok (.iload_n 1, 1) := by decide +kernel
theorem d_O_weight_72 : decode b_O_weight 72 = .ok (.aaload, 1) := by decide +kernel
theorem d_O_weight_73 : decode b_O_weight 73 = .ok (.iload_n 2, 1) := by decide +kernel
theorem d_O_weight_74 : decode b_O_weight 74 = .ok (.iaload, 1) := by decide +kernel
theorem d_O_weight_75 : decode b_O_weight 75 = .ok (.istore 4, 2) := by decide +kernel
theorem d_O_weight_77 : decode b_O_weight 77 = .ok (.aload_n 0, 1) := by decide +kernel
theorem d_O_weight_78 : decode b_O_weight 78 = .ok (.getfield 19, 3) := by decide +kernel
theorem d_O_weight_81 : decode b_O_weight 81 = .ok (.getfield 179, 3) := by decide +kernel
theorem d_O_weight_84 : decode b_O_weight 84 = .ok (.iload_n 1, 1) := by decide +kernel
theorem d_O_weight_85 : decode b_O_weight 85 = .ok (.aaload, 1) := by decide +kernel
theorem d_O_weight_86 : decode b_O_weight 86 = .ok (.iload_n 2, 1) := by decide +kernel
theorem d_O_weight_87 : decode b_O_weight 87 = .ok (.iload_n 3, 1) := by decide +kernel
theorem d_O_weight_88 : decode b_O_weight 88 = .ok (.iastore, 1) := by decide +kernel
theorem d_O_weight_89 : decode b_O_weight 89 = .ok (.iload 4, 2) := by decide +kernel
theorem d_O_weight_91 : decode b_O_weight 91 = .ok (.ireturn, 1) := by decide +kernel
abbrev b_O_tool : ByteArray := prog_1_method_17_code
abbrev y_O_tool : MethodName := ⟨"OldBeams", "tool", "(III)I"⟩
theorem d_O_tool_0 : decode b_O_tool 0 = .ok (.iload_n 1, 1) := by decide +kernel
theorem d_O_tool_1 : decode b_O_tool 1 = .ok (.invokestatic 182, 3) := by decide +kernel
theorem d_O_tool_4 : decode b_O_tool 4 = .ok (.ifCond .ne 6, 3) := by decide +kernel
theorem d_O_tool_7 : decode b_O_tool 7 = .ok (.ldc 47, 2) := by decide +kernel
theorem d_O_tool_9 : decode b_O_tool 9 = .ok (.ireturn, 1) := by decide +kernel
theorem d_O_tool_10 : decode b_O_tool 10 = .ok (.iload_n 2, 1) := by decide +kernel
theorem d_O_tool_11 : decode b_O_tool 11 = .ok (.iconst 0, 1) := by decide +kernel
theorem d_O_tool_12 : decode b_O_tool 12 = .ok (.bipush 10, 2) := by decide +kernel
theorem d_O_tool_14 : decode b_O_tool 14 = .ok (.invokestatic 43, 3) := by decide +kernel
theorem d_O_tool_17 : decode b_O_tool 17 = .ok (.ifCond .eq 13, 3) := by decide +kernel
theorem d_O_tool_20 : decode b_O_tool 20 = .ok (.iload_n 3, 1) := by decide +kernel
theorem d_O_tool_21 : decode b_O_tool 21 = .ok (.iconst 0, 1) := by decide +kernel
theorem d_O_tool_22 : decode b_O_tool 22 = .ok (.bipush 9, 2) := by decide +kernel
theorem d_O_tool_24 : decode b_O_tool 24 = .ok (.invokestatic 43, 3) := by decide +kernel
theorem d_O_tool_27 : decode b_O_tool 27 = .ok (.ifCond .ne 6, 3) := by decide +kernel
theorem d_O_tool_30 : decode b_O_tool 30 = .ok (.ldc 48, 2) := by decide +kernel
theorem d_O_tool_32 : decode b_O_tool 32 = .ok (.ireturn, 1) := by decide +kernel
theorem d_O_tool_33 : decode b_O_tool 33 = .ok (.aload_n 0, 1) := by decide +kernel
theorem d_O_tool_34 : decode b_O_tool 34 = .ok (.getfield 19, 3) := by decide +kernel
theorem d_O_tool_37 : decode b_O_tool 37 = .ok (.iload_n 1, 1) := by decide +kernel
theorem d_O_tool_38 : decode b_O_tool 38 = .ok (.invokevirtual 185, 3) := by decide +kernel
theorem d_O_tool_41 : decode b_O_tool 41 = .ok (.ifCond .eq 6, 3) := by decide +kernel
theorem d_O_tool_44 : decode b_O_tool 44 = .ok (.ldc 74, 2) := by decide +kernel
theorem d_O_tool_46 : decode b_O_tool 46 = .ok (.ireturn, 1) := by decide +kernel
theorem d_O_tool_47 : decode b_O_tool 47 = .ok (.aload_n 0, 1) := by decide +kernel
theorem d_O_tool_48 : decode b_O_tool 48 = .ok (.getfield 19, 3) := by decide +kernel
theorem d_O_tool_51 : decode b_O_tool 51 = .ok (.getfield 188, 3) := by decide +kernel
theorem d_O_tool_54 : decode b_O_tool 54 = .ok (.iload_n 1, 1) := by decide +kernel
theorem d_O_tool_55 : decode b_O_tool 55 = .ok (.aaload, 1) := by decide +kernel
theorem d_O_tool_56 : decode b_O_tool 56 = .ok (.iload_n 2, 1) := by decide +kernel
theorem d_O_tool_57 : decode b_O_tool 57 = .ok (.iaload, 1) := by decide +kernel
theorem d_O_tool_58 : decode b_O_tool 58 = .ok (.istore 4, 2) := by decide +kernel
theorem d_O_tool_60 : decode b_O_tool 60 = .ok (.aload_n 0, 1) := by decide +kernel
theorem d_O_tool_61 : decode b_O_tool 61 = .ok (.getfield 19, 3) := by decide +kernel
theorem d_O_tool_64 : decode b_O_tool 64 = .ok (.getfield 188, 3) := by decide +kernel
theorem d_O_tool_67 : decode b_O_tool 67 = .ok (.iload_n 1, 1) := by decide +kernel
theorem d_O_tool_68 : decode b_O_tool 68 = .ok (.aaload, 1) := by decide +kernel
theorem d_O_tool_69 : decode b_O_tool 69 = .ok (.iload_n 2, 1) := by decide +kernel
theorem d_O_tool_70 : decode b_O_tool 70 = .ok (.iload_n 3, 1) := by decide +kernel
theorem d_O_tool_71 : decode b_O_tool 71 = .ok (.iastore, 1) := by decide +kernel
theorem d_O_tool_72 : decode b_O_tool 72 = .ok (.iload 4, 2) := by decide +kernel
theorem d_O_tool_74 : decode b_O_tool 74 = .ok (.ireturn, 1) := by decide +kernel
abbrev b_O_isTool : ByteArray := prog_1_method_40_code
abbrev y_O_isTool : MethodName := ⟨"OldBeams", "isTool", "(I)Z"⟩
theorem d_O_isTool_0 : decode b_O_isTool 0 = .ok (.iload_n 0, 1) := by decide +kernel
theorem d_O_isTool_1 : decode b_O_isTool 1 = .ok (.iconst 0, 1) := by decide +kernel
theorem d_O_isTool_2 : decode b_O_isTool 2 = .ok (.iconst 3, 1) := by decide +kernel
theorem d_O_isTool_3 : decode b_O_isTool 3 = .ok (.invokestatic 43, 3) := by decide +kernel
theorem d_O_isTool_6 : decode b_O_isTool 6 = .ok (.ireturn, 1) := by decide +kernel
abbrev b_O_look : ByteArray := prog_1_method_18_code
abbrev y_O_look : MethodName := ⟨"OldBeams", "look", "(IIII)I"⟩
theorem d_O_look_0 : decode b_O_look 0 = .ok (.aload_n 0, 1) := by decide +kernel
theorem d_O_look_1 : decode b_O_look 1 = .ok (.getfield 12, 3) := by decide +kernel
theorem d_O_look_4 : decode b_O_look 4 = .ok (.iload_n 1, 1) := by decide +kernel
theorem d_O_look_5 : decode b_O_look 5 = .ok (.invokevirtual 66, 3) := by decide +kernel
theorem d_O_look_8 : decode b_O_look 8 = .ok (.ifCond .eq 10, 3) := by decide +kernel
theorem d_O_look_11 : decode b_O_look 11 = .ok (.iload_n 2, 1) := by decide +kernel
theorem d_O_look_12 : decode b_O_look 12 = .ok (.invokestatic 182, 3) := by decide +kernel
theorem d_O_look_15 : decode b_O_look 15 = .ok (.ifCond .ne 6, 3) := by decide +kernel
theorem d_O_look_18 : decode b_O_look 18 = .ok (.ldc 47, 2) := by decide +kernel
theorem d_O_look_20 : decode b_O_look 20 = .ok (.ireturn, 1) := by decide +kernel
theorem d_O_look_21 : decode b_O_look 21 = .ok (.iload_n 3, 1) := by decide +kernel
theorem d_O_look_22 : decode b_O_look 22 = .ok (.iconst 0, 1) := by decide +kernel
theorem d_O_look_23 : decode b_O_look 23 = .ok (.iconst 1, 1) := by decide +kernel
theorem d_O_look_24 : decode b_O_look 24 = .ok (.invokestatic 43, 3) := by decide +kernel
theorem d_O_look_27 : decode b_O_look 27 = .ok (.ifCond .eq 11, 3) := by decide +kernel
theorem d_O_look_30 : decode b_O_look 30 = .ok (.iload 4, 2) := by decide +kernel
theorem d_O_look_32 : decode b_O_look 32 = .ok (.invokestatic 53, 3) := by decide +kernel
theorem d_O_look_35 : decode b_O_look 35 = .ok (.ifCond .ne 6, 3) := by decide +kernel
theorem d_O_look_38 : decode b_O_look 38 = .ok (.ldc 48, 2) := by decide +kernel
theorem d_O_look_40 : decode b_O_look 40 = .ok (.ireturn, 1) := by decide +kernel
theorem d_O_look_41 : decode b_O_look 41 = .ok (.iload 4, 2) := by decide +kernel
theorem d_O_look_43 : decode b_O_look 43 = .ok (.aload_n 0, 1) := by decide +kernel
theorem d_O_look_44 : decode b_O_look 44 = .ok (.getfield 19, 3) := by decide +kernel
theorem d_O_look_47 : decode b_O_look 47 = .ok (.invokevirtual 191, 3) := by decide +kernel
theorem d_O_look_50 : decode b_O_look 50 = .ok (.if_icmp .ge 6, 3) := by decide +kernel
theorem d_O_look_53 : decode b_O_look 53 = .ok (.ldc 74, 2) := by decide +kernel
theorem d_O_look_55 : decode b_O_look 55 = .ok (.ireturn, 1) := by decide +kernel
theorem d_O_look_56 : decode b_O_look 56 = .ok (.aload_n 0, 1) := by decide +kernel
theorem d_O_look_57 : decode b_O_look 57 = .ok (.getfield 19, 3) := by decide +kernel
theorem d_O_look_60 : decode b_O_look 60 = .ok (.getfield 195, 3) := by decide +kernel
theorem d_O_look_63 : decode b_O_look 63 = .ok (.bipush 60, 2) := by decide +kernel
theorem d_O_look_65 : decode b_O_look 65 = .ok (.if_icmp .ge 16, 3) := by decide +kernel
theorem d_O_look_68 : decode b_O_look 68 = .ok (.aload_n 0, 1) := by decide +kernel
theorem d_O_look_69 : decode b_O_look 69 = .ok (.getfield 19, 3) := by decide +kernel
theorem d_O_look_72 : decode b_O_look 72 = .ok (.iload_n 1, 1) := by decide +kernel
theorem d_O_look_73 : decode b_O_look 73 = .ok (.invokevirtual 173, 3) := by decide +kernel
theorem d_O_look_76 : decode b_O_look 76 = .ok (.bipush 8, 2) := by decide +kernel
theorem d_O_look_78 : decode b_O_look 78 = .ok (.if_icmp .lt 6, 3) := by decide +kernel
theorem d_O_look_81 : decode b_O_look 81 = .ok (.ldc 61, 2) := by decide +kernel
theorem d_O_look_83 : decode b_O_look 83 = .ok (.ireturn, 1) := by decide +kernel
theorem d_O_look_84 : decode b_O_look 84 = .ok (.aload_n 0, 1) := by decide +kernel
theorem d_O_look_85 : decode b_O_look 85 = .ok (.getfield 19, 3) := by decide +kernel
theorem d_O_look_88 : decode b_O_look 88 = .ok (.iload_n 1, 1) := by decide +kernel
theorem d_O_look_89 : decode b_O_look 89 = .ok (.iload_n 2, 1) := by decide +kernel
theorem d_O_look_90 : decode b_O_look 90 = .ok (.iload_n 3, 1) := by decide +kernel
theorem d_O_look_91 : decode b_O_look 91 = .ok (.iload 4, 2) := by decide +kernel
theorem d_O_look_93 : decode b_O_look 93 = .ok (.invokevirtual 198, 3) := by decide +kernel
theorem d_O_look_96 : decode b_O_look 96 = .ok (.ireturn, 1) := by decide +kernel
abbrev b_O_odds : ByteArray := prog_1_method_19_code
abbrev y_O_odds : MethodName := ⟨"OldBeams", "odds", "(III)J"⟩
theorem d_O_odds_0 : decode b_O_odds 0 = .ok (.aload_n 0, 1) := by decide +kernel
theorem d_O_odds_1 : decode b_O_odds 1 = .ok (.getfield 12, 3) := by decide +kernel
theorem d_O_odds_4 : decode b_O_odds 4 = .ok (.iload_n 1, 1) := by decide +kernel
theorem d_O_odds_5 : decode b_O_odds 5 = .ok (.invokevirtual 66, 3) := by decide +kernel
theorem d_O_odds_8 : decode b_O_odds 8 = .ok (.ifCond .ne 7, 3) := by decide +kernel
theorem d_O_odds_11 : decode b_O_odds 11 = .ok (.ldc2_w 201, 3) := by decide +kernel
theorem d_O_odds_14 : decode b_O_odds 14 = .ok (.lreturn, 1) := by decide +kernel
theorem d_O_odds_15 : decode b_O_odds 15 = .ok (.iload_n 2, 1) := by decide +kernel
theorem d_O_odds_16 : decode b_O_odds 16 = .ok (.iconst 0, 1) := by decide +kernel
theorem d_O_odds_17 : decode b_O_odds 17 = .ok (.bipush 10, 2) := by decide +kernel
theorem d_O_odds_19 : decode b_O_odds 19 = .ok (.invokestatic 43, 3) := by decide +kernel
theorem d_O_odds_22 : decode b_O_odds 22 = .ok (.ifCond .eq 10, 3) := by decide +kernel
theorem d_O_odds_25 : decode b_O_odds 25 = .ok (.iload_n 3, 1) := by decide +kernel
theorem d_O_odds_26 : decode b_O_odds 26 = .ok (.invokestatic 53, 3) := by decide +kernel
theorem d_O_odds_29 : decode b_O_odds 29 = .ok (.ifCond .ne 7, 3) := by decide +kernel
theorem d_O_odds_32 : decode b_O_odds 32 = .ok (.ldc2_w 203, 3) := by decide +kernel
theorem d_O_odds_35 : decode b_O_odds 35 = .ok (.lreturn, 1) := by decide +kernel
theorem d_O_odds_36 : decode b_O_odds 36 = .ok (.aload_n 0, 1) := by decide +kernel
theorem d_O_odds_37 : decode b_O_odds 37 = .ok (.getfield 19, 3) := by decide +kernel
theorem d_O_odds_40 : decode b_O_odds 40 = .ok (.iload_n 1, 1) := by decide +kernel
theorem d_O_odds_41 : decode b_O_odds 41 = .ok (.iload_n 3, 1) := by decide +kernel
theorem d_O_odds_42 : decode b_O_odds 42 = .ok (.invokevirtual 205, 3) := by decide +kernel
theorem d_O_odds_45 : decode b_O_odds 45 = .ok (.pop, 1) := by decide +kernel
theorem d_O_odds_46 : decode b_O_odds 46 = .ok (.aload_n 0, 1) := by decide +kernel
theorem d_O_odds_47 : decode b_O_odds 47 = .ok (.getfield 19, 3) := by decide +kernel
theorem d_O_odds_50 : decode b_O_odds 50 = .ok (.getfield 209, 3) := by decide +kernel
theorem d_O_odds_53 : decode b_O_odds 53 = .ok (.iload_n 2, 1) := by decide +kernel
theorem d_O_odds_54 : decode b_O_odds 54 = .ok (.laload, 1) := by decide +kernel
theorem d_O_odds_55 : decode b_O_odds 55 = .ok (.lreturn, 1) := by decide +kernel
abbrev b_O_quarrel : ByteArray := prog_1_method_20_code
abbrev y_O_quarrel : MethodName := ⟨"OldBeams", "quarrel", "(II)I"⟩
theorem d_O_quarrel_0 : decode b_O_quarrel 0 = .ok (.aload_n 0, 1) := by decide +kernel
theorem d_O_quarrel_1 : decode b_O_quarrel 1 = .ok (.getfield 12, 3) := by decide +kernel
theorem d_O_quarrel_4 : decode b_O_quarrel 4 = .ok (.iload_n 1, 1) := by decide +kernel
theorem d_O_quarrel_5 : decode b_O_quarrel 5 = .ok (.invokevirtual 66, 3) := by decide +kernel
theorem d_O_quarrel_8 : decode b_O_quarrel 8 = .ok (.ifCond .ne 6, 3) := by decide +kernel
theorem d_O_quarrel_11 : decode b_O_quarrel 11 = .ok (.ldc 47, 2) := by decide +kernel
theorem d_O_quarrel_13 : decode b_O_quarrel 13 = .ok (.ireturn, 1) := by decide +kernel
theorem d_O_quarrel_14 : decode b_O_quarrel 14 = .ok (.iload_n 2, 1) := by decide +kernel
theorem d_O_quarrel_15 : decode b_O_quarrel 15 = .ok (.invokestatic 53, 3) := by decide +kernel
theorem d_O_quarrel_18 : decode b_O_quarrel 18 = .ok (.ifCond .ne 6, 3) := by decide +kernel
theorem d_O_quarrel_21 : decode b_O_quarrel 21 = .ok (.ldc 48, 2) := by decide +kernel
theorem d_O_quarrel_23 : decode b_O_quarrel 23 = .ok (.ireturn, 1) := by decide +kernel
theorem d_O_quarrel_24 : decode b_O_quarrel 24 = .ok (.aload_n 0, 1) := by decide +kernel
theorem d_O_quarrel_25 : decode b_O_quarrel 25 = .ok (.getfield 19, 3) := by decide +kernel
theorem d_O_quarrel_28 : decode b_O_quarrel 28 = .ok (.iload_n 1, 1) := by decide +kernel
theorem d_O_quarrel_29 : decode b_O_quarrel 29 = .ok (.iload_n 2, 1) := by decide +kernel
theorem d_O_quarrel_30 : decode b_O_quarrel 30 = .ok (.invokevirtual 205, 3) := by decide +kernel
theorem d_O_quarrel_33 : decode b_O_quarrel 33 = .ok (.ireturn, 1) := by decide +kernel
abbrev b_O_share : ByteArray := prog_1_method_21_code
abbrev y_O_share : MethodName := ⟨"OldBeams", "share", "(IIIZ)I"⟩
theorem d_O_share_0 : decode b_O_share 0 = .ok (.aload_n 0, 1) := by decide +kernel
theorem d_O_share_1 : decode b_O_share 1 = .ok (.getfield 12, 3) := by decide +kernel
theorem d_O_share_4 : decode b_O_share 4 = .ok (.iload_n 1, 1) := by decide +kernel
theorem d_O_share_5 : decode b_O_share 5 = .ok (.invokevirtual 66, 3) := by decide +kernel
theorem d_O_share_8 : decode b_O_share 8 = .ok (.ifCond .ne 6, 3) := by decide +kernel
theorem d_O_share_11 : decode b_O_share 11 = .ok (.ldc 47, 2) := by decide +kernel
theorem d_O_share_13 : decode b_O_share 13 = .ok (.ireturn, 1) := by decide +kernel
theorem d_O_share_14 : decode b_O_share 14 = .ok (.iload_n 2, 1) := by decide +kernel
theorem d_O_share_15 : decode b_O_share 15 = .ok (.iload_n 3, 1) := by decide +kernel
theorem d_O_share_16 : decode b_O_share 16 = .ok (.invokestatic 212, 3) := by decide +kernel
theorem d_O_share_19 : decode b_O_share 19 = .ok (.ifCond .ne 6, 3) := by decide +kernel
theorem d_O_share_22 : decode b_O_share 22 = .ok (.ldc 48, 2) := by decide +kernel
theorem d_O_share_24 : decode b_O_share 24 = .ok (.ireturn, 1) := by decide +kernel
theorem d_O_share_25 : decode b_O_share 25 = .ok (.aload_n 0, 1) := by decide +kernel
theorem d_O_share_26 : decode b_O_share 26 = .ok (.getfield 12, 3) := by decide +kernel
theorem d_O_share_29 : decode b_O_share 29 = .ok (.iload_n 1, 1) := by decide +kernel
theorem d_O_share_30 : decode b_O_share 30 = .ok (.aload_n 0, 1) := by decide +kernel
theorem d_O_share_31 : decode b_O_share 31 = .ok (.getfield 19, 3) := by decide +kernel
theorem d_O_share_34 : decode b_O_share 34 = .ok (.iload_n 1, 1) := by decide +kernel
theorem d_O_share_35 : decode b_O_share 35 = .ok (.iload_n 2, 1) := by decide +kernel
theorem d_O_share_36 : decode b_O_share 36 = .ok (.iload 4, 2) := by decide +kernel
theorem d_O_share_38 : decode b_O_share 38 = .ok (.invokevirtual 215, 3) := by decide +kernel
theorem d_O_share_41 : decode b_O_share 41 = .ok (.iload_n 3, 1) := by decide +kernel
theorem d_O_share_42 : decode b_O_share 42 = .ok (.iload_n 2, 1) := by decide +kernel
theorem d_O_share_43 : decode b_O_share 43 = .ok (.isub, 1) := by decide +kernel
theorem d_O_share_44 : decode b_O_share 44 = .ok (.invokevirtual 219, 3) := by decide +kernel
theorem d_O_share_47 : decode b_O_share 47 = .ok (.ireturn, 1) := by decide +kernel
abbrev b_O_areYears : ByteArray := prog_1_method_39_code
abbrev y_O_areYears : MethodName := ⟨"OldBeams", "areYears", "(II)Z"⟩
theorem d_O_areYears_0 : decode b_O_areYears 0 = .ok (.iload_n 0, 1) := by decide +kernel
theorem d_O_areYears_1 : decode b_O_areYears 1 = .ok (.invokestatic 53, 3) := by decide +kernel
theorem d_O_areYears_4 : decode b_O_areYears 4 = .ok (.ifCond .eq 19, 3) := by decide +kernel
theorem d_O_areYears_7 : decode b_O_areYears 7 = .ok (.iload_n 1, 1) := by decide +kernel
theorem d_O_areYears_8 : decode b_O_areYears 8 = .ok (.invokestatic 53, 3) := by decide +kernel
theorem d_O_areYears_11 : decode b_O_areYears 11 = .ok (.ifCond .eq 12, 3) := by decide +kernel
theorem d_O_areYears_14 : decode b_O_areYears 14 = .ok (.iload_n 1, 1) := by decide +kernel
theorem d_O_areYears_15 : decode b_O_areYears 15 = .ok (.iload_n 0, 1) := by decide +kernel
theorem d_O_areYears_16 : decode b_O_areYears 16 = .ok (.if_icmp .lt 7, 3) := by decide +kernel
theorem d_O_areYears_19 : decode b_O_areYears 19 = .ok (.iconst 1, 1) := by decide +kernel
theorem d_O_areYears_20 : decode b_O_areYears 20 = .ok (.goto 4, 3) := by decide +kernel
theorem d_O_areYears_23 : decode b_O_areYears 23 = .ok (.iconst 0, 1) := by decide +kernel
theorem d_O_areYears_24 : decode b_O_areYears 24 = .ok (.ireturn, 1) := by decide +kernel
abbrev b_O_stands : ByteArray := prog_1_method_22_code
abbrev y_O_stands : MethodName := ⟨"OldBeams", "stands", "(IIZ)I"⟩
theorem d_O_stands_0 : decode b_O_stands 0 = .ok (.iload_n 1, 1) := by decide +kernel
theorem d_O_stands_1 : decode b_O_stands 1 = .ok (.iload_n 2, 1) := by decide +kernel
theorem d_O_stands_2 : decode b_O_stands 2 = .ok (.invokestatic 212, 3) := by decide +kernel
theorem d_O_stands_5 : decode b_O_stands 5 = .ok (.ifCond .ne 6, 3) := by decide +kernel
theorem d_O_stands_8 : decode b_O_stands 8 = .ok (.ldc 48, 2) := by decide +kernel
theorem d_O_stands_10 : decode b_O_stands 10 = .ok (.ireturn, 1) := by decide +kernel
theorem d_O_stands_11 : decode b_O_stands 11 = .ok (.aload_n 0, 1) := by decide +kernel
theorem d_O_stands_12 : decode b_O_stands 12 = .ok (.iload_n 1, 1) := by decide +kernel
theorem d_O_stands_13 : decode b_O_stands 13 = .ok (.iload_n 3, 1) := by decide +kernel
theorem d_O_stands_14 : decode b_O_stands 14 = .ok (.invokevirtual 222, 3) := by decide +kernel
theorem d_O_stands_17 : decode b_O_stands 17 = .ok (.aload_n 0, 1) := by decide +kernel
theorem d_O_stands_18 : decode b_O_stands 18 = .ok (.getfield 12, 3) := by decide +kernel
theorem d_O_stands_21 : decode b_O_stands 21 = .ok (.invokevirtual 148, 3) := by decide +kernel
theorem d_O_stands_24 : decode b_O_stands 24 = .ok (.aload_n 0, 1) := by decide +kernel
theorem d_O_stands_25 : decode b_O_stands 25 = .ok (.iload_n 2, 1) := by decide +kernel
theorem d_O_stands_26 : decode b_O_stands 26 = .ok (.iload_n 1, 1) := by decide +kernel
theorem d_O_stands_27 : decode b_O_stands 27 = .ok (.isub, 1) := by decide +kernel
theorem d_O_stands_28 : decode b_O_stands 28 = .ok (.invokevirtual 226, 3) := by decide +kernel
theorem d_O_stands_31 : decode b_O_stands 31 = .ok (.invokestatic 105, 3) := by decide +kernel
theorem d_O_stands_34 : decode b_O_stands 34 = .ok (.ireturn, 1) := by decide +kernel
abbrev b_O_takeShares : ByteArray := prog_1_method_44_code
abbrev y_O_takeShares : MethodName := ⟨"OldBeams", "takeShares", "(IZ)V"⟩
theorem d_O_takeShares_0 : decode b_O_takeShares 0 = .ok (.iconst 0, 1) := by decide +kernel
theorem d_O_takeShares_1 : decode b_O_takeShares 1 = .ok (.istore_n 3, 1) := by decide +kernel
theorem d_O_takeShares_2 : decode b_O_takeShares 2 = .ok (.iload_n 3, 1) := by decide +kernel
theorem d_O_takeShares_3 : decode b_O_takeShares 3 = .ok (.aload_n 0, 1) := by decide +kernel
theorem d_O_takeShares_4 : decode b_O_takeShares 4 = .ok (.getfield 12, 3) := by decide +kernel
theorem d_O_takeShares_7 : decode b_O_takeShares 7 = .ok (.getfield 57, 3) := by decide +kernel
theorem d_O_takeShares_10 : decode b_O_takeShares 10 = .ok (.if_icmp .ge 25, 3) := by decide +kernel
theorem d_O_takeShares_13 : decode b_O_takeShares 13 = .ok (.aload_n 0, 1) := by decide +kernel
theorem d_O_takeShares_14 : decode b_O_takeShares 14 = .ok (.getfield 37, 3) := by decide +kernel
theorem d_O_takeShares_17 : decode b_O_takeShares 17 = .ok (.iload_n 3, 1) := by decide +kernel
theorem d_O_takeShares_18 : decode b_O_takeShares 18 = .ok (.aload_n 0, 1) := by decide +kernel
theorem d_O_takeShares_19 : decode b_O_takeShares 19 = .ok (.getfield 19, 3) := by decide +kernel
theorem d_O_takeShares_22 : decode b_O_takeShares 22 = .ok (.iload_n 3, 1) := by decide +kernel
theorem d_O_takeShares_23 : decode b_O_takeShares 23 = .ok (.iload_n 1, 1) := by decide +kernel
theorem d_O_takeShares_24 : decode b_O_takeShares 24 = .ok (.iload_n 2, 1) := by decide +kernel
theorem d_O_takeShares_25 : decode b_O_takeShares 25 = .ok (.invokevirtual 215, 3) := by decide +kernel
theorem d_O_takeShares_28 : decode b_O_takeShares 28 = .ok (.iastore, 1) := by decide +kernel
theorem d_O_takeShares_29 : decode b_O_takeShares 29 = .ok (.iinc 3 1, 3) := by decide +kernel
theorem d_O_takeShares_32 : decode b_O_takeShares 32 = .ok (.goto (-30), 3) := by decide +kernel
theorem d_O_takeShares_35 : decode b_O_takeShares 35 = .ok (.return_, 1) := by decide +kernel
abbrev b_O_standsAfter : ByteArray := prog_1_method_45_code
abbrev y_O_standsAfter : MethodName := ⟨"OldBeams", "standsAfter", "(I)Z"⟩
theorem d_O_standsAfter_0 : decode b_O_standsAfter 0 = .ok (.aload_n 0, 1) := by decide +kernel
theorem d_O_standsAfter_1 : decode b_O_standsAfter 1 = .ok (.getfield 12, 3) := by decide +kernel
theorem d_O_standsAfter_4 : decode b_O_standsAfter 4 = .ok (.aload_n 0, 1) := by decide +kernel
theorem d_O_standsAfter_5 : decode b_O_standsAfter 5 = .ok (.getfield 12, 3) := by decide +kernel
theorem d_O_standsAfter_8 : decode b_O_standsAfter 8 = .ok (.getfield 130, 3) := by decide +kernel
theorem d_O_standsAfter_11 : decode b_O_standsAfter 11 = .ok (.invokevirtual 136, 3) := by decide +kernel
theorem d_O_standsAfter_14 : decode b_O_standsAfter 14 = .ok (.ifCond .eq 5, 3) := by decide +kernel
theorem d_O_standsAfter_17 : decode b_O_standsAfter 17 = .ok (.iconst 0, 1) := by decide +kernel
theorem d_O_standsAfter_18 : decode b_O_standsAfter 18 = .ok (.ireturn, 1) := by decide +kernel
theorem d_O_standsAfter_19 : decode b_O_standsAfter 19 = .ok (.iconst 0, 1) := by decide +kernel
theorem d_O_standsAfter_20 : decode b_O_standsAfter 20 = .ok (.istore_n 2, 1) := by decide +kernel
theorem d_O_standsAfter_21 : decode b_O_standsAfter 21 = .ok (.iload_n 2, 1) := by decide +kernel
theorem d_O_standsAfter_22 : decode b_O_standsAfter 22 = .ok (.aload_n 0, 1) := by decide +kernel
theorem d_O_standsAfter_23 : decode b_O_standsAfter 23 = .ok (.getfield 12, 3) := by decide +kernel
theorem d_O_standsAfter_26 : decode b_O_standsAfter 26 = .ok (.getfield 57, 3) := by decide +kernel
theorem d_O_standsAfter_29 : decode b_O_standsAfter 29 = .ok (.if_icmp .ge 37, 3) := by decide +kernel
theorem d_O_standsAfter_32 : decode b_O_standsAfter 32 = .ok (.aload_n 0, 1) := by decide +kernel
theorem d_O_standsAfter_33 : decode b_O_standsAfter 33 = .ok (.getfield 12, 3) := by decide +kernel
theorem d_O_standsAfter_36 : decode b_O_standsAfter 36 = .ok (.iload_n 2, 1) := by decide +kernel
theorem d_O_standsAfter_37 : decode b_O_standsAfter 37 = .ok (.aload_n 0, 1) := by decide +kernel
theorem d_O_standsAfter_38 : decode b_O_standsAfter 38 = .ok (.getfield 12, 3) := by decide +kernel
theorem d_O_standsAfter_41 : decode b_O_standsAfter 41 = .ok (.iload_n 2, 1) := by decide +kernel
theorem d_O_standsAfter_42 : decode b_O_standsAfter 42 = .ok (.aload_n 0, 1) := by decide +kernel
theorem d_O_standsAfter_43 : decode b_O_standsAfter 43 = .ok (.getfield 37, 3) := by decide +kernel
theorem d_O_standsAfter_46 : decode b_O_standsAfter 46 = .ok (.iload_n 2, 1) := by decide +kernel
theorem d_O_standsAfter_47 : decode b_O_standsAfter 47 = .ok (.iaload, 1) := by decide +kernel
theorem d_O_standsAfter_48 : decode b_O_standsAfter 48 = .ok (.iload_n 1, 1) := by decide +kernel
theorem d_O_standsAfter_49 : decode b_O_standsAfter 49 = .ok (.invokevirtual 219, 3) := by decide +kernel
theorem d_O_standsAfter_52 : decode b_O_standsAfter 52 = .ok (.invokevirtual 170, 3) := by decide +kernel
theorem d_O_standsAfter_55 : decode b_O_standsAfter 55 = .ok (.ifCond .ne 5, 3) := by decide +kernel
theorem d_O_standsAfter_58 : decode b_O_standsAfter 58 = .ok (.iconst 0, 1) := by decide +kernel
theorem d_O_standsAfter_59 : decode b_O_standsAfter 59 = .ok (.ireturn, 1) := by decide +kernel
theorem d_O_standsAfter_60 : decode b_O_standsAfter 60 = .ok (.iinc 2 1, 3) := by decide +kernel
theorem d_O_standsAfter_63 : decode b_O_standsAfter 63 = .ok (.goto (-42), 3) := by decide +kernel
theorem d_O_standsAfter_66 : decode b_O_standsAfter 66 = .ok (.iconst 1, 1) := by decide +kernel
theorem d_O_standsAfter_67 : decode b_O_standsAfter 67 = .ok (.ireturn, 1) := by decide +kernel
abbrev b_O_until : ByteArray := prog_1_method_23_code
abbrev y_O_until : MethodName := ⟨"OldBeams", "until", "(IZ)I"⟩
theorem d_O_until_0 : decode b_O_until 0 = .ok (.iload_n 1, 1) := by decide +kernel
theorem d_O_until_1 : decode b_O_until 1 = .ok (.invokestatic 53, 3) := by decide +kernel
theorem d_O_until_4 : decode b_O_until 4 = .ok (.ifCond .ne 6, 3) := by decide +kernel
theorem d_O_until_7 : decode b_O_until 7 = .ok (.ldc 48, 2) := by decide +kernel
theorem d_O_until_9 : decode b_O_until 9 = .ok (.ireturn, 1) := by decide +kernel
theorem d_O_until_10 : decode b_O_until 10 = .ok (.aload_n 0, 1) := by decide +kernel
theorem d_O_until_11 : decode b_O_until 11 = .ok (.iload_n 1, 1) := by decide +kernel
theorem d_O_until_12 : decode b_O_until 12 = .ok (.iload_n 2, 1) := by decide +kernel
theorem d_O_until_13 : decode b_O_until 13 = .ok (.invokevirtual 222, 3) := by decide +kernel
theorem d_O_until_16 : decode b_O_until 16 = .ok (.aload_n 0, 1) := by decide +kernel
theorem d_O_until_17 : decode b_O_until 17 = .ok (.getfield 12, 3) := by decide +kernel
theorem d_O_until_20 : decode b_O_until 20 = .ok (.invokevirtual 148, 3) := by decide +kernel
theorem d_O_until_23 : decode b_O_until 23 = .ok (.ldc 73, 2) := by decide +kernel
theorem d_O_until_25 : decode b_O_until 25 = .ok (.istore_n 3, 1) := by decide +kernel
theorem d_O_until_26 : decode b_O_until 26 = .ok (.iload_n 1, 1) := by decide +kernel
theorem d_O_until_27 : decode b_O_until 27 = .ok (.istore 4, 2) := by decide +kernel
theorem d_O_until_29 : decode b_O_until 29 = .ok (.iload 4, 2) := by decide +kernel
theorem d_O_until_31 : decode b_O_until 31 = .ok (.sipush 500, 3) := by decide +kernel
theorem d_O_until_34 : decode b_O_until 34 = .ok (.if_icmp .gt 26, 3) := by decide +kernel
theorem d_O_until_37 : decode b_O_until 37 = .ok (.aload_n 0, 1) := by decide +kernel
theorem d_O_until_38 : decode b_O_until 38 = .ok (.iload 4, 2) := by decide +kernel
theorem d_O_until_40 : decode b_O_until 40 = .ok (.iload_n 1, 1) := by decide +kernel
theorem d_O_until_41 : decode b_O_until 41 = .ok (.isub, 1) := by decide +kernel
theorem d_O_until_42 : decode b_O_until 42 = .ok (.invokevirtual 226, 3) := by decide +kernel
theorem d_O_until_45 : decode b_O_until 45 = .ok (.ifCond .ne 6, 3) := by decide +kernel
theorem d_O_until_48 : decode b_O_until 48 = .ok (.goto 12, 3) := by decide +kernel
theorem d_O_until_51 : decode b_O_until 51 = .ok (.iload 4, 2) := by decide +kernel
theorem d_O_until_53 : decode b_O_until 53 = .ok (.istore_n 3, 1) := by decide +kernel
theorem d_O_until_54 : decode b_O_until 54 = .ok (.iinc 4 1, 3) := by decide +kernel
theorem d_O_until_57 : decode b_O_until 57 = .ok (.goto (-28), 3) := by decide +kernel
theorem d_O_until_60 : decode b_O_until 60 = .ok (.iload_n 3, 1) := by decide +kernel
theorem d_O_until_61 : decode b_O_until 61 = .ok (.ireturn, 1) := by decide +kernel
abbrev b_O_chance : ByteArray := prog_1_method_24_code
abbrev y_O_chance : MethodName := ⟨"OldBeams", "chance", "(IIZ)J"⟩
theorem d_O_chance_0 : decode b_O_chance 0 = .ok (.aload_n 0, 1) := by decide +kernel
theorem d_O_chance_1 : decode b_O_chance 1 = .ok (.iload_n 1, 1) := by decide +kernel
theorem d_O_chance_2 : decode b_O_chance 2 = .ok (.iload_n 2, 1) := by decide +kernel
theorem d_O_chance_3 : decode b_O_chance 3 = .ok (.invokestatic 53, 3) := by decide +kernel
theorem d_O_chance_6 : decode b_O_chance 6 = .ok (.invokevirtual 144, 3) := by decide +kernel
theorem d_O_chance_9 : decode b_O_chance 9 = .ok (.istore 4, 2) := by decide +kernel
theorem d_O_chance_11 : decode b_O_chance 11 = .ok (.iload 4, 2) := by decide +kernel
theorem d_O_chance_13 : decode b_O_chance 13 = .ok (.ifCond .eq 7, 3) := by decide +kernel
theorem d_O_chance_16 : decode b_O_chance 16 = .ok (.iload 4, 2) := by decide +kernel
theorem d_O_chance_18 : decode b_O_chance 18 = .ok (.i2l, 1) := by decide +kernel
theorem d_O_chance_19 : decode b_O_chance 19 = .ok (.lreturn, 1) := by decide +kernel
theorem d_O_chance_20 : decode b_O_chance 20 = .ok (.aload_n 0, 1) := by decide +kernel
theorem d_O_chance_21 : decode b_O_chance 21 = .ok (.getfield 12, 3) := by decide +kernel
theorem d_O_chance_24 : decode b_O_chance 24 = .ok (.invokevirtual 148, 3) := by decide +kernel
theorem d_O_chance_27 : decode b_O_chance 27 = .ok (.aload_n 0, 1) := by decide +kernel
theorem d_O_chance_28 : decode b_O_chance 28 = .ok (.getfield 19, 3) := by decide +kernel
theorem d_O_chance_31 : decode b_O_chance 31 = .ok (.iload_n 1, 1) := by decide +kernel
theorem d_O_chance_32 : decode b_O_chance 32 = .ok (.iload_n 2, 1) := by decide +kernel
theorem d_O_chance_33 : decode b_O_chance 33 = .ok (.invokevirtual 205, 3) := by decide +kernel
theorem d_O_chance_36 : decode b_O_chance 36 = .ok (.pop, 1) := by decide +kernel
theorem d_O_chance_37 : decode b_O_chance 37 = .ok (.aload_n 0, 1) := by decide +kernel
theorem d_O_chance_38 : decode b_O_chance 38 = .ok (.iload_n 1, 1) := by decide +kernel
theorem d_O_chance_39 : decode b_O_chance 39 = .ok (.invokevirtual 229, 3) := by decide +kernel
theorem d_O_chance_42 : decode b_O_chance 42 = .ok (.aload_n 0, 1) := by decide +kernel
theorem d_O_chance_43 : decode b_O_chance 43 = .ok (.getfield 26, 3) := by decide +kernel
theorem d_O_chance_46 : decode b_O_chance 46 = .ok (.iload_n 3, 1) := by decide +kernel
theorem d_O_chance_47 : decode b_O_chance 47 = .ok (.invokevirtual 232, 3) := by decide +kernel
theorem d_O_chance_50 : decode b_O_chance 50 = .ok (.lreturn, 1) := by decide +kernel
abbrev b_O_putChance : ByteArray := prog_1_method_47_code
abbrev y_O_putChance : MethodName := ⟨"OldBeams", "putChance", "(I)V"⟩
theorem d_O_putChance_0 : decode b_O_putChance 0 = .ok (.aload_n 0, 1) := by decide +kernel
theorem d_O_putChance_1 : decode b_O_putChance 1 = .ok (.getfield 19, 3) := by decide +kernel
theorem d_O_putChance_4 : decode b_O_putChance 4 = .ok (.invokevirtual 281, 3) := by decide +kernel
theorem d_O_putChance_7 : decode b_O_putChance 7 = .ok (.lstore_n 2, 1) := by decide +kernel
theorem d_O_putChance_8 : decode b_O_putChance 8 = .ok (.aload_n 0, 1) := by decide +kernel
theorem d_O_putChance_9 : decode b_O_putChance 9 = .ok (.getfield 26, 3) := by decide +kernel
theorem d_O_putChance_12 : decode b_O_putChance 12 = .ok (.lload_n 2, 1) := by decide +kernel
theorem d_O_putChance_13 : decode b_O_putChance 13 = .ok (.aload_n 0, 1) := by decide +kernel
theorem d_O_putChance_14 : decode b_O_putChance 14 = .ok (.iload_n 1, 1) := by decide +kernel
theorem d_O_putChance_15 : decode b_O_putChance 15 = .ok (.invokevirtual 285, 3) := by decide +kernel
theorem d_O_putChance_18 : decode b_O_putChance 18 = .ok (.lsub, 1) := by decide +kernel
theorem d_O_putChance_19 : decode b_O_putChance 19 = .ok (.lload_n 2, 1) := by decide +kernel
theorem d_O_putChance_20 : decode b_O_putChance 20 = .ok (.invokevirtual 274, 3) := by decide +kernel
theorem d_O_putChance_23 : decode b_O_putChance 23 = .ok (.return_, 1) := by decide +kernel
abbrev b_O_lostOdds : ByteArray := prog_1_method_46_code
abbrev y_O_lostOdds : MethodName := ⟨"OldBeams", "lostOdds", "(I)J"⟩
theorem d_O_lostOdds_0 : decode b_O_lostOdds 0 = .ok (.lconst 0, 1) := by decide +kernel
theorem d_O_lostOdds_1 : decode b_O_lostOdds 1 = .ok (.lstore_n 2, 1) := by decide +kernel
theorem d_O_lostOdds_2 : decode b_O_lostOdds 2 = .ok (.iconst 0, 1) := by decide +kernel
theorem d_O_lostOdds_3 : decode b_O_lostOdds 3 = .ok (.istore 4, 2) := by decide +kernel
theorem d_O_lostOdds_5 : decode b_O_lostOdds 5 = .ok (.iload 4, 2) := by decide +kernel
theorem d_O_lostOdds_7 : decode b_O_lostOdds 7 = .ok (.bipush 11, 2) := by decide +kernel
theorem d_O_lostOdds_9 : decode b_O_lostOdds 9 = .ok (.if_icmp .ge 35, 3) := by decide +kernel
theorem d_O_lostOdds_12 : decode b_O_lostOdds 12 = .ok (.aload_n 0, 1) := by decide +kernel
theorem d_O_lostOdds_13 : decode b_O_lostOdds 13 = .ok (.getfield 12, 3) := by decide +kernel
theorem d_O_lostOdds_16 : decode b_O_lostOdds 16 = .ok (.iload_n 1, 1) := by decide +kernel
theorem d_O_lostOdds_17 : decode b_O_lostOdds 17 = .ok (.iload 4, 2) := by decide +kernel
theorem d_O_lostOdds_19 : decode b_O_lostOdds 19 = .ok (.invokevirtual 170, 3) := by decide +kernel
theorem d_O_lostOdds_22 : decode b_O_lostOdds 22 = .ok (.ifCond .ne 16, 3) := by decide +kernel
theorem d_O_lostOdds_25 : decode b_O_lostOdds 25 = .ok (.lload_n 2, 1) := by decide +kernel
theorem d_O_lostOdds_26 : decode b_O_lostOdds 26 = .ok (.aload_n 0, 1) := by decide +kernel
theorem d_O_lostOdds_27 : decode b_O_lostOdds 27 = .ok (.getfield 19, 3) := by decide +kernel
theorem d_O_lostOdds_30 : decode b_O_lostOdds 30 = .ok (.getfield 209, 3) := by decide +kernel
theorem d_O_lostOdds_33 : decode b_O_lostOdds 33 = .ok (.iload 4, 2) := by decide +kernel
theorem d_O_lostOdds_35 : decode b_O_lostOdds 35 = .ok (.laload, 1) := by decide +kernel
theorem d_O_lostOdds_36 : decode b_O_lostOdds 36 = .ok (.ladd, 1) := by decide +kernel
theorem d_O_lostOdds_37 : decode b_O_lostOdds 37 = .ok (.lstore_n 2, 1) := by decide +kernel
theorem d_O_lostOdds_38 : decode b_O_lostOdds 38 = .ok (.iinc 4 1, 3) := by decide +kernel
theorem d_O_lostOdds_41 : decode b_O_lostOdds 41 = .ok (.goto (-36), 3) := by decide +kernel
theorem d_O_lostOdds_44 : decode b_O_lostOdds 44 = .ok (.lload_n 2, 1) := by decide +kernel
theorem d_O_lostOdds_45 : decode b_O_lostOdds 45 = .ok (.lreturn, 1) := by decide +kernel
abbrev b_O_weakest : ByteArray := prog_1_method_25_code
abbrev y_O_weakest : MethodName := ⟨"OldBeams", "weakest", "(I)I"⟩
theorem d_O_weakest_0 : decode b_O_weakest 0 = .ok (.iload_n 1, 1) := by decide +kernel
theorem d_O_weakest_1 : decode b_O_weakest 1 = .ok (.invokestatic 53, 3) := by decide +kernel
theorem d_O_weakest_4 : decode b_O_weakest 4 = .ok (.ifCond .ne 6, 3) := by decide +kernel
theorem d_O_weakest_7 : decode b_O_weakest 7 = .ok (.ldc 48, 2) := by decide +kernel
theorem d_O_weakest_9 : decode b_O_weakest 9 = .ok (.ireturn, 1) := by decide +kernel
theorem d_O_weakest_10 : decode b_O_weakest 10 = .ok (.aload_n 0, 1) := by decide +kernel
theorem d_O_weakest_11 : decode b_O_weakest 11 = .ok (.getfield 12, 3) := by decide +kernel
theorem d_O_weakest_14 : decode b_O_weakest 14 = .ok (.invokevirtual 148, 3) := by decide +kernel
theorem d_O_weakest_17 : decode b_O_weakest 17 = .ok (.ldc 73, 2) := by decide +kernel
theorem d_O_weakest_19 : decode b_O_weakest 19 = .ok (.istore_n 2, 1) := by decide +kernel
theorem d_O_weakest_20 : decode b_O_weakest 20 = .ok (.iconst 0, 1) := by decide +kernel
theorem d_O_weakest_21 : decode b_O_weakest 21 = .ok (.istore_n 3, 1) := by decide +kernel
theorem d_O_weakest_22 : decode b_O_weakest 22 = .ok (.iload_n 3, 1) := by decide +kernel
theorem d_O_weakest_23 : decode b_O_weakest 23 = .ok (.aload_n 0, 1) := by decide +kernel
theorem d_O_weakest_24 : decode b_O_weakest 24 = .ok (.getfield 12, 3) := by decide +kernel
theorem d_O_weakest_27 : decode b_O_weakest 27 = .ok (.getfield 57, 3) := by decide +kernel
theorem d_O_weakest_30 : decode b_O_weakest 30 = .ok (.if_icmp .ge 71, 3) := by decide +kernel
theorem d_O_weakest_33 : decode b_O_weakest 33 = .ok (.aload_n 0, 1) := by decide +kernel
theorem d_O_weakest_34 : decode b_O_weakest 34 = .ok (.getfield 12, 3) := by decide +kernel
theorem d_O_weakest_37 : decode b_O_weakest 37 = .ok (.iload_n 3, 1) := by decide +kernel
theorem d_O_weakest_38 : decode b_O_weakest 38 = .ok (.invokevirtual 109, 3) := by decide +kernel
theorem d_O_weakest_41 : decode b_O_weakest 41 = .ok (.ifCond .eq 6, 3) := by decide +kernel
theorem d_O_weakest_44 : decode b_O_weakest 44 = .ok (.goto 51, 3) := by decide +kernel
theorem d_O_weakest_47 : decode b_O_weakest 47 = .ok (.aload_n 0, 1) := by decide +kernel
theorem d_O_weakest_48 : decode b_O_weakest 48 = .ok (.getfield 19, 3) := by decide +kernel
theorem d_O_weakest_51 : decode b_O_weakest 51 = .ok (.iload_n 3, 1) := by decide +kernel
theorem d_O_weakest_52 : decode b_O_weakest 52 = .ok (.iload_n 1, 1) := by decide +kernel
theorem d_O_weakest_53 : decode b_O_weakest 53 = .ok (.invokevirtual 205, 3) := by decide +kernel
theorem d_O_weakest_56 : decode b_O_weakest 56 = .ok (.pop, 1) := by decide +kernel
theorem d_O_weakest_57 : decode b_O_weakest 57 = .ok (.aload_n 0, 1) := by decide +kernel
theorem d_O_weakest_58 : decode b_O_weakest 58 = .ok (.iload_n 3, 1) := by decide +kernel
theorem d_O_weakest_59 : decode b_O_weakest 59 = .ok (.invokevirtual 229, 3) := by decide +kernel
theorem d_O_weakest_62 : decode b_O_weakest 62 = .ok (.iload_n 2, 1) := by decide +kernel
theorem d_O_weakest_63 : decode b_O_weakest 63 = .ok (.ldc 73, 2) := by decide +kernel
theorem d_O_weakest_65 : decode b_O_weakest 65 = .ok (.if_icmp .eq 17, 3) := by decide +kernel
theorem d_O_weakest_68 : decode b_O_weakest 68 = .ok (.aload_n 0, 1) := by decide +kernel
theorem d_O_weakest_69 : decode b_O_weakest 69 = .ok (.getfield 26, 3) := by decide +kernel
theorem d_O_weakest_72 : decode b_O_weakest 72 = .ok (.aload_n 0, 1) := by decide +kernel
theorem d_O_weakest_73 : decode b_O_weakest 73 = .ok (.getfield 30, 3) := by decide +kernel
theorem d_O_weakest_76 : decode b_O_weakest 76 = .ok (.invokevirtual 236, 3) := by decide +kernel
theorem d_O_weakest_79 : decode b_O_weakest 79 = .ok (.ifCond .eq 16, 3) := by decide +kernel
theorem d_O_weakest_82 : decode b_O_weakest 82 = .ok (.iload_n 3, 1) := by decide +kernel
theorem d_O_weakest_83 : decode b_O_weakest 83 = .ok (.istore_n 2, 1) := by decide +kernel
theorem d_O_weakest_84 : decode b_O_weakest 84 = .ok (.aload_n 0, 1) := by decide +kernel
theorem d_O_weakest_85 : decode b_O_weakest 85 = .ok (.getfield 30, 3) := by decide +kernel
theorem d_O_weakest_88 : decode b_O_weakest 88 = .ok (.aload_n 0, 1) := by decide +kernel
theorem d_O_weakest_89 : decode b_O_weakest 89 = .ok (.getfield 26, 3) := by decide +kernel
theorem d_O_weakest_92 : decode b_O_weakest 92 = .ok (.invokevirtual 240, 3) := by decide +kernel
theorem d_O_weakest_95 : decode b_O_weakest 95 = .ok (.iinc 3 1, 3) := by decide +kernel
theorem d_O_weakest_98 : decode b_O_weakest 98 = .ok (.goto (-76), 3) := by decide +kernel
theorem d_O_weakest_101 : decode b_O_weakest 101 = .ok (.iload_n 2, 1) := by decide +kernel
theorem d_O_weakest_102 : decode b_O_weakest 102 = .ok (.ireturn, 1) := by decide +kernel
abbrev b_O_chain : ByteArray := prog_1_method_26_code
abbrev y_O_chain : MethodName := ⟨"OldBeams", "chain", "(II)I"⟩
theorem d_O_chain_0 : decode b_O_chain 0 = .ok (.aload_n 0, 1) := by decide +kernel
theorem d_O_chain_1 : decode b_O_chain 1 = .ok (.iload_n 1, 1) := by decide +kernel
theorem d_O_chain_2 : decode b_O_chain 2 = .ok (.iload_n 2, 1) := by decide +kernel
theorem d_O_chain_3 : decode b_O_chain 3 = .ok (.invokestatic 53, 3) := by decide +kernel
theorem d_O_chain_6 : decode b_O_chain 6 = .ok (.invokevirtual 144, 3) := by decide +kernel
theorem d_O_chain_9 : decode b_O_chain 9 = .ok (.istore_n 3, 1) := by decide +kernel
theorem d_O_chain_10 : decode b_O_chain 10 = .ok (.iload_n 3, 1) := by decide +kernel
theorem d_O_chain_11 : decode b_O_chain 11 = .ok (.ifCond .eq 5, 3) := by decide +kernel
theorem d_O_chain_14 : decode b_O_chain 14 = .ok (.iload_n 3, 1) := by decide +kernel
theorem d_O_chain_15 : decode b_O_chain 15 = .ok (.ireturn, 1) := by decide +kernel
theorem d_O_chain_16 : decode b_O_chain 16 = .ok (.aload_n 0, 1) := by decide +kernel
theorem d_O_chain_17 : decode b_O_chain 17 = .ok (.iload_n 2, 1) := by decide +kernel
theorem d_O_chain_18 : decode b_O_chain 18 = .ok (.iconst 0, 1) := by decide +kernel
theorem d_O_chain_19 : decode b_O_chain 19 = .ok (.invokevirtual 222, 3) := by decide +kernel
theorem d_O_chain_22 : decode b_O_chain 22 = .ok (.aload_n 0, 1) := by decide +kernel
theorem d_O_chain_23 : decode b_O_chain 23 = .ok (.getfield 12, 3) := by decide +kernel
theorem d_O_chain_26 : decode b_O_chain 26 = .ok (.iload_n 1, 1) := by decide +kernel
theorem d_O_chain_27 : decode b_O_chain 27 = .ok (.aload_n 0, 1) := by decide +kernel
theorem d_O_chain_28 : decode b_O_chain 28 = .ok (.getfield 37, 3) := by decide +kernel
theorem d_O_chain_31 : decode b_O_chain 31 = .ok (.aload_n 0, 1) := by decide +kernel
theorem d_O_chain_32 : decode b_O_chain 32 = .ok (.getfield 40, 3) := by decide +kernel
theorem d_O_chain_35 : decode b_O_chain 35 = .ok (.invokevirtual 244, 3) := by decide +kernel
theorem d_O_chain_38 : decode b_O_chain 38 = .ok (.pop, 1) := by decide +kernel
theorem d_O_chain_39 : decode b_O_chain 39 = .ok (.aload_n 0, 1) := by decide +kernel
theorem d_O_chain_40 : decode b_O_chain 40 = .ok (.getfield 12, 3) := by decide +kernel
theorem d_O_chain_43 : decode b_O_chain 43 = .ok (.getfield 248, 3) := by decide +kernel
theorem d_O_chain_46 : decode b_O_chain 46 = .ok (.invokestatic 139, 3) := by decide +kernel
theorem d_O_chain_49 : decode b_O_chain 49 = .ok (.ireturn, 1) := by decide +kernel
abbrev b_O_chainAt : ByteArray := prog_1_method_27_code
abbrev y_O_chainAt : MethodName := ⟨"OldBeams", "chainAt", "(III)I"⟩
theorem d_O_chainAt_0 : decode b_O_chainAt 0 = .ok (.aload_n 0, 1) := by decide +kernel
theorem d_O_chainAt_1 : decode b_O_chainAt 1 = .ok (.iload_n 1, 1) := by decide +kernel
theorem d_O_chainAt_2 : decode b_O_chainAt 2 = .ok (.iload_n 2, 1) := by decide +kernel
theorem d_O_chainAt_3 : decode b_O_chainAt 3 = .ok (.invokestatic 53, 3) := by decide +kernel
theorem d_O_chainAt_6 : decode b_O_chainAt 6 = .ok (.invokevirtual 144, 3) := by decide +kernel
theorem d_O_chainAt_9 : decode b_O_chainAt 9 = .ok (.istore 4, 2) := by decide +kernel
theorem d_O_chainAt_11 : decode b_O_chainAt 11 = .ok (.iload 4, 2) := by decide +kernel
theorem d_O_chainAt_13 : decode b_O_chainAt 13 = .ok (.ifCond .eq 6, 3) := by decide +kernel
theorem d_O_chainAt_16 : decode b_O_chainAt 16 = .ok (.iload 4, 2) := by decide +kernel
theorem d_O_chainAt_18 : decode b_O_chainAt 18 = .ok (.ireturn, 1) := by decide +kernel
theorem d_O_chainAt_19 : decode b_O_chainAt 19 = .ok (.aload_n 0, 1) := by decide +kernel
theorem d_O_chainAt_20 : decode b_O_chainAt 20 = .ok (.iload_n 2, 1) := by decide +kernel
theorem d_O_chainAt_21 : decode b_O_chainAt 21 = .ok (.iconst 0, 1) := by decide +kernel
theorem d_O_chainAt_22 : decode b_O_chainAt 22 = .ok (.invokevirtual 222, 3) := by decide +kernel
theorem d_O_chainAt_25 : decode b_O_chainAt 25 = .ok (.aload_n 0, 1) := by decide +kernel
theorem d_O_chainAt_26 : decode b_O_chainAt 26 = .ok (.getfield 12, 3) := by decide +kernel
theorem d_O_chainAt_29 : decode b_O_chainAt 29 = .ok (.iload_n 1, 1) := by decide +kernel
theorem d_O_chainAt_30 : decode b_O_chainAt 30 = .ok (.aload_n 0, 1) := by decide +kernel
theorem d_O_chainAt_31 : decode b_O_chainAt 31 = .ok (.getfield 37, 3) := by decide +kernel
theorem d_O_chainAt_34 : decode b_O_chainAt 34 = .ok (.aload_n 0, 1) := by decide +kernel
theorem d_O_chainAt_35 : decode b_O_chainAt 35 = .ok (.getfield 40, 3) := by decide +kernel
theorem d_O_chainAt_38 : decode b_O_chainAt 38 = .ok (.invokevirtual 244, 3) := by decide +kernel
theorem d_O_chainAt_41 : decode b_O_chainAt 41 = .ok (.istore 5, 2) := by decide +kernel
theorem d_O_chainAt_43 : decode b_O_chainAt 43 = .ok (.iload_n 3, 1) := by decide +kernel
theorem d_O_chainAt_44 : decode b_O_chainAt 44 = .ok (.iconst 0, 1) := by decide +kernel
theorem d_O_chainAt_45 : decode b_O_chainAt 45 = .ok (.iload 5, 2) := by decide +kernel
theorem d_O_chainAt_47 : decode b_O_chainAt 47 = .ok (.iconst 1, 1) := by decide +kernel
theorem d_O_chainAt_48 : decode b_O_chainAt 48 = .ok (.isub, 1) := by decide +kernel
theorem d_O_chainAt_49 : decode b_O_chainAt 49 = .ok (.invokestatic 43, 3) := by decide +kernel
theorem d_O_chainAt_52 : decode b_O_chainAt 52 = .ok (.ifCond .eq 12, 3) := by decide +kernel
theorem d_O_chainAt_55 : decode b_O_chainAt 55 = .ok (.aload_n 0, 1) := by decide +kernel
theorem d_O_chainAt_56 : decode b_O_chainAt 56 = .ok (.getfield 40, 3) := by decide +kernel
theorem d_O_chainAt_59 : decode b_O_chainAt 59 = .ok (.iload_n 3, 1) := by decide +kernel
theorem d_O_chainAt_60 : decode b_O_chainAt 60 = .ok (.iaload, 1) := by decide +kernel
theorem d_O_chainAt_61 : decode b_O_chainAt 61 = .ok (.goto 5, 3) := by decide +kernel
theorem d_O_chainAt_64 : decode b_O_chainAt 64 = .ok (.ldc 73, 2) := by decide +kernel
theorem d_O_chainAt_66 : decode b_O_chainAt 66 = .ok (.ireturn, 1) := by decide +kernel
abbrev b_O_prop : ByteArray := prog_1_method_28_code
abbrev y_O_prop : MethodName := ⟨"OldBeams", "prop", "(III)I"⟩
theorem d_O_prop_0 : decode b_O_prop 0 = .ok (.aload_n 0, 1) := by decide +kernel
theorem d_O_prop_1 : decode b_O_prop 1 = .ok (.getfield 12, 3) := by decide +kernel
theorem d_O_prop_4 : decode b_O_prop 4 = .ok (.iload_n 1, 1) := by decide +kernel
theorem d_O_prop_5 : decode b_O_prop 5 = .ok (.invokevirtual 66, 3) := by decide +kernel
theorem d_O_prop_8 : decode b_O_prop 8 = .ok (.ifCond .ne 6, 3) := by decide +kernel
theorem d_O_prop_11 : decode b_O_prop 11 = .ok (.ldc 47, 2) := by decide +kernel
theorem d_O_prop_13 : decode b_O_prop 13 = .ok (.ireturn, 1) := by decide +kernel
theorem d_O_prop_14 : decode b_O_prop 14 = .ok (.aload_n 0, 1) := by decide +kernel
theorem d_O_prop_15 : decode b_O_prop 15 = .ok (.getfield 12, 3) := by decide +kernel
theorem d_O_prop_18 : decode b_O_prop 18 = .ok (.iload_n 1, 1) := by decide +kernel
theorem d_O_prop_19 : decode b_O_prop 19 = .ok (.iload_n 2, 1) := by decide +kernel
theorem d_O_prop_20 : decode b_O_prop 20 = .ok (.invokevirtual 69, 3) := by decide +kernel
theorem d_O_prop_23 : decode b_O_prop 23 = .ok (.ifCond .eq 14, 3) := by decide +kernel
theorem d_O_prop_26 : decode b_O_prop 26 = .ok (.iload_n 3, 1) := by decide +kernel
theorem d_O_prop_27 : decode b_O_prop 27 = .ok (.iconst 1, 1) := by decide +kernel
theorem d_O_prop_28 : decode b_O_prop 28 = .ok (.sipush 9999, 3) := by decide +kernel
theorem d_O_prop_31 : decode b_O_prop 31 = .ok (.invokestatic 43, 3) := by decide +kernel
theorem d_O_prop_34 : decode b_O_prop 34 = .ok (.ifCond .ne 6, 3) := by decide +kernel
theorem d_O_prop_37 : decode b_O_prop 37 = .ok (.ldc 48, 2) := by decide +kernel
theorem d_O_prop_39 : decode b_O_prop 39 = .ok (.ireturn, 1) := by decide +kernel
theorem d_O_prop_40 : decode b_O_prop 40 = .ok (.aload_n 0, 1) := by decide +kernel
theorem d_O_prop_41 : decode b_O_prop 41 = .ok (.getfield 12, 3) := by decide +kernel
theorem d_O_prop_44 : decode b_O_prop 44 = .ok (.getfield 251, 3) := by decide +kernel
theorem d_O_prop_47 : decode b_O_prop 47 = .ok (.bipush 8, 2) := by decide +kernel
theorem d_O_prop_49 : decode b_O_prop 49 = .ok (.if_icmp .lt 6, 3) := by decide +kernel
theorem d_O_prop_52 : decode b_O_prop 52 = .ok (.ldc 61, 2) := by decide +kernel
theorem d_O_prop_54 : decode b_O_prop 54 = .ok (.ireturn, 1) := by decide +kernel
theorem d_O_prop_55 : decode b_O_prop 55 = .ok (.aload_n 0, 1) := by decide +kernel
theorem d_O_prop_56 : decode b_O_prop 56 = .ok (.getfield 12, 3) := by decide +kernel
theorem d_O_prop_59 : decode b_O_prop 59 = .ok (.iload_n 1, 1) := by decide +kernel
theorem d_O_prop_60 : decode b_O_prop 60 = .ok (.iload_n 2, 1) := by decide +kernel
theorem d_O_prop_61 : decode b_O_prop 61 = .ok (.iload_n 3, 1) := by decide +kernel
theorem d_O_prop_62 : decode b_O_prop 62 = .ok (.invokevirtual 254, 3) := by decide +kernel
theorem d_O_prop_65 : decode b_O_prop 65 = .ok (.ireturn, 1) := by decide +kernel
abbrev b_O_set : ByteArray := prog_1_method_29_code
abbrev y_O_set : MethodName := ⟨"OldBeams", "set", "(IZ)I"⟩
theorem d_O_set_0 : decode b_O_set 0 = .ok (.iload_n 1, 1) := by decide +kernel
theorem d_O_set_1 : decode b_O_set 1 = .ok (.iconst 0, 1) := by decide +kernel
theorem d_O_set_2 : decode b_O_set 2 = .ok (.aload_n 0, 1) := by decide +kernel
theorem d_O_set_3 : decode b_O_set 3 = .ok (.getfield 12, 3) := by decide +kernel
theorem d_O_set_6 : decode b_O_set 6 = .ok (.getfield 251, 3) := by decide +kernel
theorem d_O_set_9 : decode b_O_set 9 = .ok (.iconst 1, 1) := by decide +kernel
theorem d_O_set_10 : decode b_O_set 10 = .ok (.isub, 1) := by decide +kernel
theorem d_O_set_11 : decode b_O_set 11 = .ok (.invokestatic 43, 3) := by decide +kernel
theorem d_O_set_14 : decode b_O_set 14 = .ok (.ifCond .ne 6, 3) := by decide +kernel
theorem d_O_set_17 : decode b_O_set 17 = .ok (.ldc 47, 2) := by decide +kernel
theorem d_O_set_19 : decode b_O_set 19 = .ok (.ireturn, 1) := by decide +kernel
theorem d_O_set_20 : decode b_O_set 20 = .ok (.iload_n 1, 1) := by decide +kernel
theorem d_O_set_21 : decode b_O_set 21 = .ok (.invokestatic 257, 3) := by decide +kernel
theorem d_O_set_24 : decode b_O_set 24 = .ok (.istore_n 3, 1) := by decide +kernel
theorem d_O_set_25 : decode b_O_set 25 = .ok (.aload_n 0, 1) := by decide +kernel
theorem d_O_set_26 : decode b_O_set 26 = .ok (.getfield 12, 3) := by decide +kernel
theorem d_O_set_29 : decode b_O_set 29 = .ok (.getfield 260, 3) := by decide +kernel
theorem d_O_set_32 : decode b_O_set 32 = .ok (.iload_n 3, 1) := by decide +kernel
theorem d_O_set_33 : decode b_O_set 33 = .ok (.iand, 1) := by decide +kernel
theorem d_O_set_34 : decode b_O_set 34 = .ok (.ifCond .eq 7, 3) := by decide +kernel
theorem d_O_set_37 : decode b_O_set 37 = .ok (.iconst 1, 1) := by decide +kernel
theorem d_O_set_38 : decode b_O_set 38 = .ok (.goto 4, 3) := by decide +kernel
theorem d_O_set_41 : decode b_O_set 41 = .ok (.iconst 0, 1) := by decide +kernel
theorem d_O_set_42 : decode b_O_set 42 = .ok (.invokestatic 105, 3) := by decide +kernel
theorem d_O_set_45 : decode b_O_set 45 = .ok (.istore 4, 2) := by decide +kernel
theorem d_O_set_47 : decode b_O_set 47 = .ok (.aload_n 0, 1) := by decide +kernel
theorem d_O_set_48 : decode b_O_set 48 = .ok (.getfield 12, 3) := by decide +kernel
theorem d_O_set_51 : decode b_O_set 51 = .ok (.iload_n 2, 1) := by decide +kernel
theorem d_O_set_52 : decode b_O_set 52 = .ok (.ifCond .eq 15, 3) := by decide +kernel
theorem d_O_set_55 : decode b_O_set 55 = .ok (.aload_n 0, 1) := by decide +kernel
theorem d_O_set_56 : decode b_O_set 56 = .ok (.getfield 12, 3) := by decide +kernel
theorem d_O_set_59 : decode b_O_set 59 = .ok (.getfield 260, 3) := by decide +kernel
theorem d_O_set_62 : decode b_O_set 62 = .ok (.iload_n 3, 1) := by decide +kernel
theorem d_O_set_63 : decode b_O_set 63 = .ok (.ior, 1) := by decide +kernel
theorem d_O_set_64 : decode b_O_set 64 = .ok (.goto 14, 3) := by decide +kernel
theorem d_O_set_67 : decode b_O_set 67 = .ok (.aload_n 0, 1) := by decide +kernel
theorem d_O_set_68 : decode b_O_set 68 = .ok (.getfield 12, 3) := by decide +kernel
theorem d_O_set_71 : decode b_O_set 71 = .ok (.getfield 260, 3) := by decide +kernel
theorem d_O_set_74 : decode b_O_set 74 = .ok (.iload_n 3, 1) := by decide +kernel
theorem d_O_set_75 : decode b_O_set 75 = .ok (.iconst (-1), 1) := by decide +kernel
theorem d_O_set_76 : decode b_O_set 76 = .ok (.ixor, 1) := by decide +kernel
theorem d_O_set_77 : decode b_O_set 77 = .ok (.iand, 1) := by decide +kernel
theorem d_O_set_78 : decode b_O_set 78 = .ok (.putfield 260, 3) := by decide +kernel
theorem d_O_set_81 : decode b_O_set 81 = .ok (.iload 4, 2) := by decide +kernel
theorem d_O_set_83 : decode b_O_set 83 = .ok (.ireturn, 1) := by decide +kernel
abbrev b_O_fewest : ByteArray := prog_1_method_30_code
abbrev y_O_fewest : MethodName := ⟨"OldBeams", "fewest", "(I)I"⟩
theorem d_O_fewest_0 : decode b_O_fewest 0 = .ok (.iload_n 1, 1) := by decide +kernel
theorem d_O_fewest_1 : decode b_O_fewest 1 = .ok (.invokestatic 53, 3) := by decide +kernel
theorem d_O_fewest_4 : decode b_O_fewest 4 = .ok (.ifCond .ne 6, 3) := by decide +kernel
theorem d_O_fewest_7 : decode b_O_fewest 7 = .ok (.ldc 48, 2) := by decide +kernel
theorem d_O_fewest_9 : decode b_O_fewest 9 = .ok (.ireturn, 1) := by decide +kernel
theorem d_O_fewest_10 : decode b_O_fewest 10 = .ok (.aload_n 0, 1) := by decide +kernel
theorem d_O_fewest_11 : decode b_O_fewest 11 = .ok (.iload_n 1, 1) := by decide +kernel
theorem d_O_fewest_12 : decode b_O_fewest 12 = .ok (.iconst 0, 1) := by decide +kernel
theorem d_O_fewest_13 : decode b_O_fewest 13 = .ok (.invokevirtual 222, 3) := by decide +kernel
theorem d_O_fewest_16 : decode b_O_fewest 16 = .ok (.aload_n 0, 1) := by decide +kernel
theorem d_O_fewest_17 : decode b_O_fewest 17 = .ok (.getfield 12, 3) := by decide +kernel
theorem d_O_fewest_20 : decode b_O_fewest 20 = .ok (.aload_n 0, 1) := by decide +kernel
theorem d_O_fewest_21 : decode b_O_fewest 21 = .ok (.getfield 37, 3) := by decide +kernel
theorem d_O_fewest_24 : decode b_O_fewest 24 = .ok (.invokevirtual 263, 3) := by decide +kernel
theorem d_O_fewest_27 : decode b_O_fewest 27 = .ok (.istore_n 2, 1) := by decide +kernel
theorem d_O_fewest_28 : decode b_O_fewest 28 = .ok (.iload_n 2, 1) := by decide +kernel
theorem d_O_fewest_29 : decode b_O_fewest 29 = .ok (.ldc 73, 2) := by decide +kernel
theorem d_O_fewest_31 : decode b_O_fewest 31 = .ok (.if_icmp .ne 8, 3) := by decide +kernel
theorem d_O_fewest_34 : decode b_O_fewest 34 = .ok (.ldc 73, 2) := by decide +kernel
theorem d_O_fewest_36 : decode b_O_fewest 36 = .ok (.goto 7, 3) := by decide +kernel
theorem d_O_fewest_39 : decode b_O_fewest 39 = .ok (.iload_n 2, 1) := by decide +kernel
theorem d_O_fewest_40 : decode b_O_fewest 40 = .ok (.invokestatic 139, 3) := by decide +kernel
theorem d_O_fewest_43 : decode b_O_fewest 43 = .ok (.ireturn, 1) := by decide +kernel
abbrev b_O_needed : ByteArray := prog_1_method_31_code
abbrev y_O_needed : MethodName := ⟨"OldBeams", "needed", "(II)I"⟩
theorem d_O_needed_0 : decode b_O_needed 0 = .ok (.iload_n 1, 1) := by decide +kernel
theorem d_O_needed_1 : decode b_O_needed 1 = .ok (.invokestatic 53, 3) := by decide +kernel
theorem d_O_needed_4 : decode b_O_needed 4 = .ok (.ifCond .ne 6, 3) := by decide +kernel
theorem d_O_needed_7 : decode b_O_needed 7 = .ok (.ldc 48, 2) := by decide +kernel
theorem d_O_needed_9 : decode b_O_needed 9 = .ok (.ireturn, 1) := by decide +kernel
theorem d_O_needed_10 : decode b_O_needed 10 = .ok (.aload_n 0, 1) := by decide +kernel
theorem d_O_needed_11 : decode b_O_needed 11 = .ok (.iload_n 1, 1) := by decide +kernel
theorem d_O_needed_12 : decode b_O_needed 12 = .ok (.iconst 0, 1) := by decide +kernel
theorem d_O_needed_13 : decode b_O_needed 13 = .ok (.invokevirtual 222, 3) := by decide +kernel
theorem d_O_needed_16 : decode b_O_needed 16 = .ok (.aload_n 0, 1) := by decide +kernel
theorem d_O_needed_17 : decode b_O_needed 17 = .ok (.getfield 12, 3) := by decide +kernel
theorem d_O_needed_20 : decode b_O_needed 20 = .ok (.aload_n 0, 1) := by decide +kernel
theorem d_O_needed_21 : decode b_O_needed 21 = .ok (.getfield 37, 3) := by decide +kernel
theorem d_O_needed_24 : decode b_O_needed 24 = .ok (.invokevirtual 263, 3) := by decide +kernel
theorem d_O_needed_27 : decode b_O_needed 27 = .ok (.istore_n 3, 1) := by decide +kernel
theorem d_O_needed_28 : decode b_O_needed 28 = .ok (.iload_n 3, 1) := by decide +kernel
theorem d_O_needed_29 : decode b_O_needed 29 = .ok (.ldc 73, 2) := by decide +kernel
theorem d_O_needed_31 : decode b_O_needed 31 = .ok (.if_icmp .ne 6, 3) := by decide +kernel
theorem d_O_needed_34 : decode b_O_needed 34 = .ok (.ldc 73, 2) := by decide +kernel
theorem d_O_needed_36 : decode b_O_needed 36 = .ok (.ireturn, 1) := by decide +kernel
theorem d_O_needed_37 : decode b_O_needed 37 = .ok (.iconst 0, 1) := by decide +kernel
theorem d_O_needed_38 : decode b_O_needed 38 = .ok (.istore 4, 2) := by decide +kernel
theorem d_O_needed_40 : decode b_O_needed 40 = .ok (.iconst 0, 1) := by decide +kernel
theorem d_O_needed_41 : decode b_O_needed 41 = .ok (.istore 5, 2) := by decide +kernel
theorem d_O_needed_43 : decode b_O_needed 43 = .ok (.iload 5, 2) := by decide +kernel
theorem d_O_needed_45 : decode b_O_needed 45 = .ok (.bipush 8, 2) := by decide +kernel
theorem d_O_needed_47 : decode b_O_needed 47 = .ok (.if_icmp .ge 34, 3) := by decide +kernel
theorem d_O_needed_50 : decode b_O_needed 50 = .ok (.iload_n 3, 1) := by decide +kernel
theorem d_O_needed_51 : decode b_O_needed 51 = .ok (.iload 5, 2) := by decide +kernel
theorem d_O_needed_53 : decode b_O_needed 53 = .ok (.invokestatic 257, 3) := by decide +kernel
theorem d_O_needed_56 : decode b_O_needed 56 = .ok (.iand, 1) := by decide +kernel
theorem d_O_needed_57 : decode b_O_needed 57 = .ok (.ifCond .ne 6, 3) := by decide +kernel
theorem d_O_needed_60 : decode b_O_needed 60 = .ok (.goto 15, 3) := by decide +kernel
theorem d_O_needed_63 : decode b_O_needed 63 = .ok (.iload 4, 2) := by decide +kernel
theorem d_O_needed_65 : decode b_O_needed 65 = .ok (.iload_n 2, 1) := by decide +kernel
theorem d_O_needed_66 : decode b_O_needed 66 = .ok (.if_icmp .ne 6, 3) := by decide +kernel
theorem d_O_needed_69 : decode b_O_needed 69 = .ok (.iload 5, 2) := by decide +kernel
theorem d_O_needed_71 : decode b_O_needed 71 = .ok (.ireturn, 1) := by decide +kernel
theorem d_O_needed_72 : decode b_O_needed 72 = .ok (.iinc 4 1, 3) := by decide +kernel
theorem d_O_needed_75 : decode b_O_needed 75 = .ok (.iinc 5 1, 3) := by decide +kernel
theorem d_O_needed_78 : decode b_O_needed 78 = .ok (.goto (-35), 3) := by decide +kernel
theorem d_O_needed_81 : decode b_O_needed 81 = .ok (.ldc 73, 2) := by decide +kernel
theorem d_O_needed_83 : decode b_O_needed 83 = .ok (.ireturn, 1) := by decide +kernel
abbrev b_O_price : ByteArray := prog_1_method_32_code
abbrev y_O_price : MethodName := ⟨"OldBeams", "price", "(II)I"⟩
theorem d_O_price_0 : decode b_O_price 0 = .ok (.iload_n 1, 1) := by decide +kernel
theorem d_O_price_1 : decode b_O_price 1 = .ok (.iconst 0, 1) := by decide +kernel
theorem d_O_price_2 : decode b_O_price 2 = .ok (.iconst 1, 1) := by decide +kernel
theorem d_O_price_3 : decode b_O_price 3 = .ok (.invokestatic 43, 3) := by decide +kernel
theorem d_O_price_6 : decode b_O_price 6 = .ok (.ifCond .eq 14, 3) := by decide +kernel
theorem d_O_price_9 : decode b_O_price 9 = .ok (.iload_n 2, 1) := by decide +kernel
theorem d_O_price_10 : decode b_O_price 10 = .ok (.iconst 0, 1) := by decide +kernel
theorem d_O_price_11 : decode b_O_price 11 = .ok (.sipush 9999, 3) := by decide +kernel
theorem d_O_price_14 : decode b_O_price 14 = .ok (.invokestatic 43, 3) := by decide +kernel
theorem d_O_price_17 : decode b_O_price 17 = .ok (.ifCond .ne 6, 3) := by decide +kernel
theorem d_O_price_20 : decode b_O_price 20 = .ok (.ldc 48, 2) := by decide +kernel
theorem d_O_price_22 : decode b_O_price 22 = .ok (.ireturn, 1) := by decide +kernel
theorem d_O_price_23 : decode b_O_price 23 = .ok (.aload_n 0, 1) := by decide +kernel
theorem d_O_price_24 : decode b_O_price 24 = .ok (.getfield 33, 3) := by decide +kernel
theorem d_O_price_27 : decode b_O_price 27 = .ok (.iload_n 1, 1) := by decide +kernel
theorem d_O_price_28 : decode b_O_price 28 = .ok (.iaload, 1) := by decide +kernel
theorem d_O_price_29 : decode b_O_price 29 = .ok (.istore_n 3, 1) := by decide +kernel
theorem d_O_price_30 : decode b_O_price 30 = .ok (.aload_n 0, 1) := by decide +kernel
theorem d_O_price_31 : decode b_O_price 31 = .ok (.getfield 33, 3) := by decide +kernel
theorem d_O_price_34 : decode b_O_price 34 = .ok (.iload_n 1, 1) := by decide +kernel
theorem d_O_price_35 : decode b_O_price 35 = .ok (.iload_n 2, 1) := by decide +kernel
theorem d_O_price_36 : decode b_O_price 36 = .ok (.iastore, 1) := by decide +kernel
theorem d_O_price_37 : decode b_O_price 37 = .ok (.iload_n 3, 1) := by decide +kernel
theorem d_O_price_38 : decode b_O_price 38 = .ok (.ireturn, 1) := by decide +kernel
abbrev b_O_mean : ByteArray := prog_1_method_33_code
abbrev y_O_mean : MethodName := ⟨"OldBeams", "mean", "(IIZ)J"⟩
theorem d_O_mean_0 : decode b_O_mean 0 = .ok (.aload_n 0, 1) := by decide +kernel
theorem d_O_mean_1 : decode b_O_mean 1 = .ok (.iload_n 1, 1) := by decide +kernel
theorem d_O_mean_2 : decode b_O_mean 2 = .ok (.iload_n 2, 1) := by decide +kernel
theorem d_O_mean_3 : decode b_O_mean 3 = .ok (.invokestatic 53, 3) := by decide +kernel
theorem d_O_mean_6 : decode b_O_mean 6 = .ok (.invokevirtual 144, 3) := by decide +kernel
theorem d_O_mean_9 : decode b_O_mean 9 = .ok (.istore 4, 2) := by decide +kernel
theorem d_O_mean_11 : decode b_O_mean 11 = .ok (.iload 4, 2) := by decide +kernel
theorem d_O_mean_13 : decode b_O_mean 13 = .ok (.ifCond .eq 7, 3) := by decide +kernel
theorem d_O_mean_16 : decode b_O_mean 16 = .ok (.iload 4, 2) := by decide +kernel
theorem d_O_mean_18 : decode b_O_mean 18 = .ok (.i2l, 1) := by decide +kernel
theorem d_O_mean_19 : decode b_O_mean 19 = .ok (.lreturn, 1) := by decide +kernel
theorem d_O_mean_20 : decode b_O_mean 20 = .ok (.aload_n 0, 1) := by decide +kernel
theorem d_O_mean_21 : decode b_O_mean 21 = .ok (.getfield 12, 3) := by decide +kernel
theorem d_O_mean_24 : decode b_O_mean 24 = .ok (.invokevirtual 148, 3) := by decide +kernel
theorem d_O_mean_27 : decode b_O_mean 27 = .ok (.aload_n 0, 1) := by decide +kernel
theorem d_O_mean_28 : decode b_O_mean 28 = .ok (.getfield 19, 3) := by decide +kernel
theorem d_O_mean_31 : decode b_O_mean 31 = .ok (.iload_n 1, 1) := by decide +kernel
theorem d_O_mean_32 : decode b_O_mean 32 = .ok (.iload_n 2, 1) := by decide +kernel
theorem d_O_mean_33 : decode b_O_mean 33 = .ok (.invokevirtual 205, 3) := by decide +kernel
theorem d_O_mean_36 : decode b_O_mean 36 = .ok (.pop, 1) := by decide +kernel
theorem d_O_mean_37 : decode b_O_mean 37 = .ok (.aload_n 0, 1) := by decide +kernel
theorem d_O_mean_38 : decode b_O_mean 38 = .ok (.iload_n 1, 1) := by decide +kernel
theorem d_O_mean_39 : decode b_O_mean 39 = .ok (.invokevirtual 267, 3) := by decide +kernel
theorem d_O_mean_42 : decode b_O_mean 42 = .ok (.aload_n 0, 1) := by decide +kernel
theorem d_O_mean_43 : decode b_O_mean 43 = .ok (.getfield 26, 3) := by decide +kernel
theorem d_O_mean_46 : decode b_O_mean 46 = .ok (.iload_n 3, 1) := by decide +kernel
theorem d_O_mean_47 : decode b_O_mean 47 = .ok (.invokevirtual 232, 3) := by decide +kernel
theorem d_O_mean_50 : decode b_O_mean 50 = .ok (.lreturn, 1) := by decide +kernel
abbrev b_O_putMean : ByteArray := prog_1_method_48_code
abbrev y_O_putMean : MethodName := ⟨"OldBeams", "putMean", "(I)V"⟩
theorem d_O_putMean_0 : decode b_O_putMean 0 = .ok (.aload_n 0, 1) := by decide +kernel
theorem d_O_putMean_1 : decode b_O_putMean 1 = .ok (.getfield 19, 3) := by decide +kernel
theorem d_O_putMean_4 : decode b_O_putMean 4 = .ok (.invokevirtual 281, 3) := by decide +kernel
theorem d_O_putMean_7 : decode b_O_putMean 7 = .ok (.lstore_n 2, 1) := by decide +kernel
theorem d_O_putMean_8 : decode b_O_putMean 8 = .ok (.aload_n 0, 1) := by decide +kernel
theorem d_O_putMean_9 : decode b_O_putMean 9 = .ok (.getfield 26, 3) := by decide +kernel
theorem d_O_putMean_12 : decode b_O_putMean 12 = .ok (.aload_n 0, 1) := by decide +kernel
theorem d_O_putMean_13 : decode b_O_putMean 13 = .ok (.lload_n 2, 1) := by decide +kernel
theorem d_O_putMean_14 : decode b_O_putMean 14 = .ok (.aload_n 0, 1) := by decide +kernel
theorem d_O_putMean_15 : decode b_O_putMean 15 = .ok (.iload_n 1, 1) := by decide +kernel
theorem d_O_putMean_16 : decode b_O_putMean 16 = .ok (.invokevirtual 285, 3) := by decide +kernel
theorem d_O_putMean_19 : decode b_O_putMean 19 = .ok (.invokevirtual 288, 3) := by decide +kernel
theorem d_O_putMean_22 : decode b_O_putMean 22 = .ok (.lload_n 2, 1) := by decide +kernel
theorem d_O_putMean_23 : decode b_O_putMean 23 = .ok (.invokevirtual 274, 3) := by decide +kernel
theorem d_O_putMean_26 : decode b_O_putMean 26 = .ok (.return_, 1) := by decide +kernel
abbrev b_O_cost : ByteArray := prog_1_method_50_code
abbrev y_O_cost : MethodName := ⟨"OldBeams", "cost", "(JJ)J"⟩
theorem d_O_cost_0 : decode b_O_cost 0 = .ok (.aload_n 0, 1) := by decide +kernel
theorem d_O_cost_1 : decode b_O_cost 1 = .ok (.getfield 33, 3) := by decide +kernel
theorem d_O_cost_4 : decode b_O_cost 4 = .ok (.iconst 0, 1) := by decide +kernel
theorem d_O_cost_5 : decode b_O_cost 5 = .ok (.iaload, 1) := by decide +kernel
theorem d_O_cost_6 : decode b_O_cost 6 = .ok (.i2l, 1) := by decide +kernel
theorem d_O_cost_7 : decode b_O_cost 7 = .ok (.lload_n 1, 1) := by decide +kernel
theorem d_O_cost_8 : decode b_O_cost 8 = .ok (.lmul, 1) := by decide +kernel
theorem d_O_cost_9 : decode b_O_cost 9 = .ok (.aload_n 0, 1) := by decide +kernel
theorem d_O_cost_10 : decode b_O_cost 10 = .ok (.getfield 33, 3) := by decide +kernel
theorem d_O_cost_13 : decode b_O_cost 13 = .ok (.iconst 1, 1) := by decide +kernel
theorem d_O_cost_14 : decode b_O_cost 14 = .ok (.iaload, 1) := by decide +kernel
theorem d_O_cost_15 : decode b_O_cost 15 = .ok (.i2l, 1) := by decide +kernel
theorem d_O_cost_16 : decode b_O_cost 16 = .ok (.lload_n 3, 1) := by decide +kernel
theorem d_O_cost_17 : decode b_O_cost 17 = .ok (.lmul, 1) := by decide +kernel
theorem d_O_cost_18 : decode b_O_cost 18 = .ok (.invokestatic 294, 3) := by decide +kernel
theorem d_O_cost_21 : decode b_O_cost 21 = .ok (.lreturn, 1) := by decide +kernel
abbrev b_O_worth : ByteArray := prog_1_method_34_code
abbrev y_O_worth : MethodName := ⟨"OldBeams", "worth", "(IIIZ)J"⟩
theorem d_O_worth_0 : decode b_O_worth 0 = .ok (.iload_n 2, 1) := by decide +kernel
theorem d_O_worth_1 : decode b_O_worth 1 = .ok (.invokestatic 182, 3) := by decide +kernel
theorem d_O_worth_4 : decode b_O_worth 4 = .ok (.ifCond .ne 7, 3) := by decide +kernel
theorem d_O_worth_7 : decode b_O_worth 7 = .ok (.ldc2_w 201, 3) := by decide +kernel
theorem d_O_worth_10 : decode b_O_worth 10 = .ok (.lreturn, 1) := by decide +kernel
theorem d_O_worth_11 : decode b_O_worth 11 = .ok (.aload_n 0, 1) := by decide +kernel
theorem d_O_worth_12 : decode b_O_worth 12 = .ok (.iload_n 1, 1) := by decide +kernel
theorem d_O_worth_13 : decode b_O_worth 13 = .ok (.iload_n 3, 1) := by decide +kernel
theorem d_O_worth_14 : decode b_O_worth 14 = .ok (.invokestatic 53, 3) := by decide +kernel
theorem d_O_worth_17 : decode b_O_worth 17 = .ok (.invokevirtual 144, 3) := by decide +kernel
theorem d_O_worth_20 : decode b_O_worth 20 = .ok (.istore 5, 2) := by decide +kernel
theorem d_O_worth_22 : decode b_O_worth 22 = .ok (.iload 5, 2) := by decide +kernel
theorem d_O_worth_24 : decode b_O_worth 24 = .ok (.ifCond .eq 7, 3) := by decide +kernel
theorem d_O_worth_27 : decode b_O_worth 27 = .ok (.iload 5, 2) := by decide +kernel
theorem d_O_worth_29 : decode b_O_worth 29 = .ok (.i2l, 1) := by decide +kernel
theorem d_O_worth_30 : decode b_O_worth 30 = .ok (.lreturn, 1) := by decide +kernel
theorem d_O_worth_31 : decode b_O_worth 31 = .ok (.aload_n 0, 1) := by decide +kernel
theorem d_O_worth_32 : decode b_O_worth 32 = .ok (.getfield 12, 3) := by decide +kernel
theorem d_O_worth_35 : decode b_O_worth 35 = .ok (.invokevirtual 148, 3) := by decide +kernel
theorem d_O_worth_38 : decode b_O_worth 38 = .ok (.aload_n 0, 1) := by decide +kernel
theorem d_O_worth_39 : decode b_O_worth 39 = .ok (.getfield 19, 3) := by decide +kernel
theorem d_O_worth_42 : decode b_O_worth 42 = .ok (.iload_n 1, 1) := by decide +kernel
theorem d_O_worth_43 : decode b_O_worth 43 = .ok (.iload_n 3, 1) := by decide +kernel
theorem d_O_worth_44 : decode b_O_worth 44 = .ok (.invokevirtual 205, 3) := by decide +kernel
theorem d_O_worth_47 : decode b_O_worth 47 = .ok (.pop, 1) := by decide +kernel
theorem d_O_worth_48 : decode b_O_worth 48 = .ok (.aload_n 0, 1) := by decide +kernel
theorem d_O_worth_49 : decode b_O_worth 49 = .ok (.iload_n 1, 1) := by decide +kernel
theorem d_O_worth_50 : decode b_O_worth 50 = .ok (.iload_n 2, 1) := by decide +kernel
theorem d_O_worth_51 : decode b_O_worth 51 = .ok (.invokevirtual 270, 3) := by decide +kernel
theorem d_O_worth_54 : decode b_O_worth 54 = .ok (.aload_n 0, 1) := by decide +kernel
theorem d_O_worth_55 : decode b_O_worth 55 = .ok (.getfield 26, 3) := by decide +kernel
theorem d_O_worth_58 : decode b_O_worth 58 = .ok (.iload 4, 2) := by decide +kernel
theorem d_O_worth_60 : decode b_O_worth 60 = .ok (.invokevirtual 232, 3) := by decide +kernel
theorem d_O_worth_63 : decode b_O_worth 63 = .ok (.lreturn, 1) := by decide +kernel
abbrev b_O_putWorth : ByteArray := prog_1_method_49_code
abbrev y_O_putWorth : MethodName := ⟨"OldBeams", "putWorth", "(II)V"⟩
theorem d_O_putWorth_0 : decode b_O_putWorth 0 = .ok (.lconst 0, 1) := by decide +kernel
theorem d_O_putWorth_1 : decode b_O_putWorth 1 = .ok (.lstore_n 3, 1) := by decide +kernel
theorem d_O_putWorth_2 : decode b_O_putWorth 2 = .ok (.lconst 0, 1) := by decide +kernel
theorem d_O_putWorth_3 : decode b_O_putWorth 3 = .ok (.lstore 5, 2) := by decide +kernel
theorem d_O_putWorth_5 : decode b_O_putWorth 5 = .ok (.iconst 0, 1) := by decide +kernel
theorem d_O_putWorth_6 : decode b_O_putWorth 6 = .ok (.istore 7, 2) := by decide +kernel
theorem d_O_putWorth_8 : decode b_O_putWorth 8 = .ok (.iload 7, 2) := by decide +kernel
theorem d_O_putWorth_10 : decode b_O_putWorth 10 = .ok (.bipush 11, 2) := by decide +kernel
theorem d_O_putWorth_12 : decode b_O_putWorth 12 = .ok (.if_icmp .ge 60, 3) := by decide +kernel
theorem d_O_putWorth_15 : decode b_O_putWorth 15 = .ok (.aload_n 0, 1) := by decide +kernel
theorem d_O_putWorth_16 : decode b_O_putWorth 16 = .ok (.getfield 19, 3) := by decide +kernel
theorem d_O_putWorth_19 : decode b_O_putWorth 19 = .ok (.getfield 209, 3) := by decide +kernel
theorem d_O_putWorth_22 : decode b_O_putWorth 22 = .ok (.iload 7, 2) := by decide +kernel
theorem d_O_putWorth_24 : decode b_O_putWorth 24 = .ok (.laload, 1) := by decide +kernel
theorem d_O_putWorth_25 : decode b_O_putWorth 25 = .ok (.aload_n 0, 1) := by decide +kernel
theorem d_O_putWorth_26 : decode b_O_putWorth 26 = .ok (.getfield 19, 3) := by decide +kernel
theorem d_O_putWorth_29 : decode b_O_putWorth 29 = .ok (.getfield 188, 3) := by decide +kernel
theorem d_O_putWorth_32 : decode b_O_putWorth 32 = .ok (.iload_n 2, 1) := by decide +kernel
theorem d_O_putWorth_33 : decode b_O_putWorth 33 = .ok (.aaload, 1) := by decide +kernel
theorem d_O_putWorth_34 : decode b_O_putWorth 34 = .ok (.iload 7, 2) := by decide +kernel
theorem d_O_putWorth_36 : decode b_O_putWorth 36 = .ok (.iaload, 1) := by decide +kernel
theorem d_O_putWorth_37 : decode b_O_putWorth 37 = .ok (.i2l, 1) := by decide +kernel
theorem d_O_putWorth_38 : decode b_O_putWorth 38 = .ok (.lmul, 1) := by decide +kernel
theorem d_O_putWorth_39 : decode b_O_putWorth 39 = .ok (.lstore 8, 2) := by decide +kernel
theorem d_O_putWorth_41 : decode b_O_putWorth 41 = .ok (.lload_n 3, 1) := by decide +kernel
theorem d_O_putWorth_42 : decode b_O_putWorth 42 = .ok (.lload 8, 2) := by decide +kernel
theorem d_O_putWorth_44 : decode b_O_putWorth 44 = .ok (.ladd, 1) := by decide +kernel
theorem d_O_putWorth_45 : decode b_O_putWorth 45 = .ok (.lstore_n 3, 1) := by decide +kernel
theorem d_O_putWorth_46 : decode b_O_putWorth 46 = .ok (.aload_n 0, 1) := by decide +kernel
theorem d_O_putWorth_47 : decode b_O_putWorth 47 = .ok (.getfield 12, 3) := by decide +kernel
theorem d_O_putWorth_50 : decode b_O_putWorth 50 = .ok (.iload_n 1, 1) := by decide +kernel
theorem d_O_putWorth_51 : decode b_O_putWorth 51 = .ok (.iload 7, 2) := by decide +kernel
theorem d_O_putWorth_53 : decode b_O_putWorth 53 = .ok (.invokevirtual 170, 3) := by decide +kernel
theorem d_O_putWorth_56 : decode b_O_putWorth 56 = .ok (.ifCond .ne 10, 3) := by decide +kernel
theorem d_O_putWorth_59 : decode b_O_putWorth 59 = .ok (.lload 5, 2) := by decide +kernel
theorem d_O_putWorth_61 : decode b_O_putWorth 61 = .ok (.lload 8, 2) := by decide +kernel
theorem d_O_putWorth_63 : decode b_O_putWorth 63 = .ok (.ladd, 1) := by decide +kernel
theorem d_O_putWorth_64 : decode b_O_putWorth 64 = .ok (.lstore 5, 2) := by decide +kernel
theorem d_O_putWorth_66 : decode b_O_putWorth 66 = .ok (.iinc 7 1, 3) := by decide +kernel
theorem d_O_putWorth_69 : decode b_O_putWorth 69 = .ok (.goto (-61), 3) := by decide +kernel
theorem d_O_putWorth_72 : decode b_O_putWorth 72 = .ok (.aload_n 0, 1) := by decide +kernel
theorem d_O_putWorth_73 : decode b_O_putWorth 73 = .ok (.getfield 19, 3) := by decide +kernel
theorem d_O_putWorth_76 : decode b_O_putWorth 76 = .ok (.invokevirtual 281, 3) := by decide +kernel
theorem d_O_putWorth_79 : decode b_O_putWorth 79 = .ok (.lstore 7, 2) := by decide +kernel
theorem d_O_putWorth_81 : decode b_O_putWorth 81 = .ok (.aload_n 0, 1) := by decide +kernel
theorem d_O_putWorth_82 : decode b_O_putWorth 82 = .ok (.iload_n 1, 1) := by decide +kernel
theorem d_O_putWorth_83 : decode b_O_putWorth 83 = .ok (.invokevirtual 285, 3) := by decide +kernel
theorem d_O_putWorth_86 : decode b_O_putWorth 86 = .ok (.lstore 9, 2) := by decide +kernel
theorem d_O_putWorth_88 : decode b_O_putWorth 88 = .ok (.ldc2_w 292, 3) := by decide +kernel
theorem d_O_putWorth_91 : decode b_O_putWorth 91 = .ok (.aload_n 0, 1) := by decide +kernel
theorem d_O_putWorth_92 : decode b_O_putWorth 92 = .ok (.lload 7, 2) := by decide +kernel
theorem d_O_putWorth_94 : decode b_O_putWorth 94 = .ok (.lload 9, 2) := by decide +kernel
theorem d_O_putWorth_96 : decode b_O_putWorth 96 = .ok (.invokevirtual 288, 3) := by decide +kernel
theorem d_O_putWorth_99 : decode b_O_putWorth 99 = .ok (.lmul, 1) := by decide +kernel
theorem d_O_putWorth_100 : decode b_O_putWorth 100 = .ok (.lstore 11, 2) := by decide +kernel
theorem d_O_putWorth_102 : decode b_O_putWorth 102 = .ok (.aload_n 0, 1) := by decide +kernel
theorem d_O_putWorth_103 : decode b_O_putWorth 103 = .ok (.lload_n 3, 1) := by decide +kernel
theorem d_O_putWorth_104 : decode b_O_putWorth 104 = .ok (.lload 5, 2) := by decide +kernel
theorem d_O_putWorth_106 : decode b_O_putWorth 106 = .ok (.invokevirtual 288, 3) := by decide +kernel
theorem d_O_putWorth_109 : decode b_O_putWorth 109 = .ok (.aload_n 0, 1) := by decide +kernel
theorem d_O_putWorth_110 : decode b_O_putWorth 110 = .ok (.ldc2_w 292, 3) := by decide +kernel
theorem d_O_putWorth_113 : decode b_O_putWorth 113 = .ok (.lload 7, 2) := by decide +kernel
theorem d_O_putWorth_115 : decode b_O_putWorth 115 = .ok (.lmul, 1) := by decide +kernel
theorem d_O_putWorth_116 : decode b_O_putWorth 116 = .ok (.lload_n 3, 1) := by decide +kernel
theorem d_O_putWorth_117 : decode b_O_putWorth 117 = .ok (.lsub, 1) := by decide +kernel
theorem d_O_putWorth_118 : decode b_O_putWorth 118 = .ok (.ldc2_w 292, 3) := by decide +kernel
theorem d_O_putWorth_121 : decode b_O_putWorth 121 = .ok (.lload 9, 2) := by decide +kernel
theorem d_O_putWorth_123 : decode b_O_putWorth 123 = .ok (.lmul, 1) := by decide +kernel
theorem d_O_putWorth_124 : decode b_O_putWorth 124 = .ok (.lload 5, 2) := by decide +kernel
theorem d_O_putWorth_126 : decode b_O_putWorth 126 = .ok (.lsub, 1) := by decide +kernel
theorem d_O_putWorth_127 : decode b_O_putWorth 127 = .ok (.invokevirtual 288, 3) := by decide +kernel
theorem d_O_putWorth_130 : decode b_O_putWorth 130 = .ok (.ladd, 1) := by decide +kernel
theorem d_O_putWorth_131 : decode b_O_putWorth 131 = .ok (.lstore 13, 2) := by decide +kernel
theorem d_O_putWorth_133 : decode b_O_putWorth 133 = .ok (.aload_n 0, 1) := by decide +kernel
theorem d_O_putWorth_134 : decode b_O_putWorth 134 = .ok (.getfield 26, 3) := by decide +kernel
theorem d_O_putWorth_137 : decode b_O_putWorth 137 = .ok (.lload 11, 2) := by decide +kernel
theorem d_O_putWorth_139 : decode b_O_putWorth 139 = .ok (.lload 13, 2) := by decide +kernel
theorem d_O_putWorth_141 : decode b_O_putWorth 141 = .ok (.lsub, 1) := by decide +kernel
theorem d_O_putWorth_142 : decode b_O_putWorth 142 = .ok (.ldc2_w 292, 3) := by decide +kernel
theorem d_O_putWorth_145 : decode b_O_putWorth 145 = .ok (.lload 7, 2) := by decide +kernel
theorem d_O_putWorth_147 : decode b_O_putWorth 147 = .ok (.lmul, 1) := by decide +kernel
theorem d_O_putWorth_148 : decode b_O_putWorth 148 = .ok (.invokevirtual 274, 3) := by decide +kernel
theorem d_O_putWorth_151 : decode b_O_putWorth 151 = .ok (.return_, 1) := by decide +kernel
abbrev b_O_bestLook : ByteArray := prog_1_method_35_code
abbrev y_O_bestLook : MethodName := ⟨"OldBeams", "bestLook", "(I)I"⟩
theorem d_O_bestLook_0 : decode b_O_bestLook 0 = .ok (.iload_n 1, 1) := by decide +kernel
theorem d_O_bestLook_1 : decode b_O_bestLook 1 = .ok (.invokestatic 53, 3) := by decide +kernel
theorem d_O_bestLook_4 : decode b_O_bestLook 4 = .ok (.ifCond .ne 6, 3) := by decide +kernel
theorem d_O_bestLook_7 : decode b_O_bestLook 7 = .ok (.ldc 48, 2) := by decide +kernel
theorem d_O_bestLook_9 : decode b_O_bestLook 9 = .ok (.ireturn, 1) := by decide +kernel
theorem d_O_bestLook_10 : decode b_O_bestLook 10 = .ok (.aload_n 0, 1) := by decide +kernel
theorem d_O_bestLook_11 : decode b_O_bestLook 11 = .ok (.getfield 12, 3) := by decide +kernel
theorem d_O_bestLook_14 : decode b_O_bestLook 14 = .ok (.invokevirtual 148, 3) := by decide +kernel
theorem d_O_bestLook_17 : decode b_O_bestLook 17 = .ok (.ldc 73, 2) := by decide +kernel
theorem d_O_bestLook_19 : decode b_O_bestLook 19 = .ok (.istore_n 2, 1) := by decide +kernel
theorem d_O_bestLook_20 : decode b_O_bestLook 20 = .ok (.aload_n 0, 1) := by decide +kernel
theorem d_O_bestLook_21 : decode b_O_bestLook 21 = .ok (.getfield 30, 3) := by decide +kernel
theorem d_O_bestLook_24 : decode b_O_bestLook 24 = .ok (.lconst 0, 1) := by decide +kernel
theorem d_O_bestLook_25 : decode b_O_bestLook 25 = .ok (.lconst 1, 1) := by decide +kernel
theorem d_O_bestLook_26 : decode b_O_bestLook 26 = .ok (.invokevirtual 274, 3) := by decide +kernel
theorem d_O_bestLook_29 : decode b_O_bestLook 29 = .ok (.iconst 0, 1) := by decide +kernel
theorem d_O_bestLook_30 : decode b_O_bestLook 30 = .ok (.istore_n 3, 1) := by decide +kernel
theorem d_O_bestLook_31 : decode b_O_bestLook 31 = .ok (.iload_n 3, 1) := by decide +kernel
theorem d_O_bestLook_32 : decode b_O_bestLook 32 = .ok (.aload_n 0, 1) := by decide +kernel
theorem d_O_bestLook_33 : decode b_O_bestLook 33 = .ok (.getfield 12, 3) := by decide +kernel
theorem d_O_bestLook_36 : decode b_O_bestLook 36 = .ok (.getfield 57, 3) := by decide +kernel
theorem d_O_bestLook_39 : decode b_O_bestLook 39 = .ok (.if_icmp .ge 88, 3) := by decide +kernel
theorem d_O_bestLook_42 : decode b_O_bestLook 42 = .ok (.aload_n 0, 1) := by decide +kernel
theorem d_O_bestLook_43 : decode b_O_bestLook 43 = .ok (.getfield 12, 3) := by decide +kernel
theorem d_O_bestLook_46 : decode b_O_bestLook 46 = .ok (.iload_n 3, 1) := by decide +kernel
theorem d_O_bestLook_47 : decode b_O_bestLook 47 = .ok (.invokevirtual 109, 3) := by decide +kernel
theorem d_O_bestLook_50 : decode b_O_bestLook 50 = .ok (.ifCond .eq 6, 3) := by decide +kernel
theorem d_O_bestLook_53 : decode b_O_bestLook 53 = .ok (.goto 68, 3) := by decide +kernel
theorem d_O_bestLook_56 : decode b_O_bestLook 56 = .ok (.aload_n 0, 1) := by decide +kernel
theorem d_O_bestLook_57 : decode b_O_bestLook 57 = .ok (.getfield 19, 3) := by decide +kernel
theorem d_O_bestLook_60 : decode b_O_bestLook 60 = .ok (.iload_n 3, 1) := by decide +kernel
theorem d_O_bestLook_61 : decode b_O_bestLook 61 = .ok (.iload_n 1, 1) := by decide +kernel
theorem d_O_bestLook_62 : decode b_O_bestLook 62 = .ok (.invokevirtual 205, 3) := by decide +kernel
theorem d_O_bestLook_65 : decode b_O_bestLook 65 = .ok (.pop, 1) := by decide +kernel
theorem d_O_bestLook_66 : decode b_O_bestLook 66 = .ok (.iconst 0, 1) := by decide +kernel
theorem d_O_bestLook_67 : decode b_O_bestLook 67 = .ok (.istore 4, 2) := by decide +kernel
theorem d_O_bestLook_69 : decode b_O_bestLook 69 = .ok (.iload 4, 2) := by decide +kernel
theorem d_O_bestLook_71 : decode b_O_bestLook 71 = .ok (.iconst 4, 1) := by decide +kernel
theorem d_O_bestLook_72 : decode b_O_bestLook 72 = .ok (.if_icmp .ge 49, 3) := by decide +kernel
theorem d_O_bestLook_75 : decode b_O_bestLook 75 = .ok (.aload_n 0, 1) := by decide +kernel
theorem d_O_bestLook_76 : decode b_O_bestLook 76 = .ok (.iload_n 3, 1) := by decide +kernel
theorem d_O_bestLook_77 : decode b_O_bestLook 77 = .ok (.iload 4, 2) := by decide +kernel
theorem d_O_bestLook_79 : decode b_O_bestLook 79 = .ok (.invokevirtual 270, 3) := by decide +kernel
theorem d_O_bestLook_82 : decode b_O_bestLook 82 = .ok (.aload_n 0, 1) := by decide +kernel
theorem d_O_bestLook_83 : decode b_O_bestLook 83 = .ok (.getfield 30, 3) := by decide +kernel
theorem d_O_bestLook_86 : decode b_O_bestLook 86 = .ok (.aload_n 0, 1) := by decide +kernel
theorem d_O_bestLook_87 : decode b_O_bestLook 87 = .ok (.getfield 26, 3) := by decide +kernel
theorem d_O_bestLook_90 : decode b_O_bestLook 90 = .ok (.invokevirtual 236, 3) := by decide +kernel
theorem d_O_bestLook_93 : decode b_O_bestLook 93 = .ok (.ifCond .eq 22, 3) := by decide +kernel
theorem d_O_bestLook_96 : decode b_O_bestLook 96 = .ok (.bipush 10, 2) := by decide +kernel
theorem d_O_bestLook_98 : decode b_O_bestLook 98 = .ok (.iload_n 3, 1) := by decide +kernel
theorem d_O_bestLook_99 : decode b_O_bestLook 99 = .ok (.imul, 1) := by decide +kernel
theorem d_O_bestLook_100 : decode b_O_bestLook 100 = .ok (.iload 4, 2) := by decide +kernel
theorem d_O_bestLook_102 : decode b_O_bestLook 102 = .ok (.iadd, 1) := by decide +kernel
theorem d_O_bestLook_103 : decode b_O_bestLook 103 = .ok (.istore_n 2, 1) := by decide +kernel
theorem d_O_bestLook_104 : decode b_O_bestLook 104 = .ok (.aload_n 0, 1) := by decide +kernel
theorem d_O_bestLook_105 : decode b_O_bestLook 105 = .ok (.getfield 30, 3) := by decide +kernel
theorem d_O_bestLook_108 : decode b_O_bestLook 108 = .ok (.aload_n 0, 1) := by decide +kernel
theorem d_O_bestLook_109 : decode b_O_bestLook 109 = .ok (.getfield 26, 3) := by decide +kernel
theorem d_O_bestLook_112 : decode b_O_bestLook 112 = .ok (.invokevirtual 240, 3) := by decide +kernel
theorem d_O_bestLook_115 : decode b_O_bestLook 115 = .ok (.iinc 4 1, 3) := by decide +kernel
theorem d_O_bestLook_118 : decode b_O_bestLook 118 = .ok (.goto (-49), 3) := by decide +kernel
theorem d_O_bestLook_121 : decode b_O_bestLook 121 = .ok (.iinc 3 1, 3) := by decide +kernel
theorem d_O_bestLook_124 : decode b_O_bestLook 124 = .ok (.goto (-93), 3) := by decide +kernel
theorem d_O_bestLook_127 : decode b_O_bestLook 127 = .ok (.iload_n 2, 1) := by decide +kernel
theorem d_O_bestLook_128 : decode b_O_bestLook 128 = .ok (.ireturn, 1) := by decide +kernel
abbrev b_O_count : ByteArray := prog_1_method_36_code
abbrev y_O_count : MethodName := ⟨"OldBeams", "count", "(I)I"⟩
theorem d_O_count_0 : decode b_O_count 0 = .ok (.iload_n 1, 1) := by decide +kernel
theorem d_O_count_1 : decode b_O_count 1 = .ok (.tableswitch 100 0 5 #[39, 47, 55, 63, 71, 82], 39) := by decide +kernel
theorem d_O_count_40 : decode b_O_count 40 = .ok (.aload_n 0, 1) := by decide +kernel
theorem d_O_count_41 : decode b_O_count 41 = .ok (.getfield 12, 3) := by decide +kernel
theorem d_O_count_44 : decode b_O_count 44 = .ok (.getfield 57, 3) := by decide +kernel
theorem d_O_count_47 : decode b_O_count 47 = .ok (.ireturn, 1) := by decide +kernel
theorem d_O_count_48 : decode b_O_count 48 = .ok (.aload_n 0, 1) := by decide +kernel
theorem d_O_count_49 : decode b_O_count 49 = .ok (.getfield 12, 3) := by decide +kernel
theorem d_O_count_52 : decode b_O_count 52 = .ok (.invokevirtual 278, 3) := by decide +kernel
theorem d_O_count_55 : decode b_O_count 55 = .ok (.ireturn, 1) := by decide +kernel
theorem d_O_count_56 : decode b_O_count 56 = .ok (.aload_n 0, 1) := by decide +kernel
theorem d_O_count_57 : decode b_O_count 57 = .ok (.getfield 19, 3) := by decide +kernel
theorem d_O_count_60 : decode b_O_count 60 = .ok (.getfield 195, 3) := by decide +kernel
theorem d_O_count_63 : decode b_O_count 63 = .ok (.ireturn, 1) := by decide +kernel
theorem d_O_count_64 : decode b_O_count 64 = .ok (.aload_n 0, 1) := by decide +kernel
theorem d_O_count_65 : decode b_O_count 65 = .ok (.getfield 12, 3) := by decide +kernel
theorem d_O_count_68 : decode b_O_count 68 = .ok (.getfield 251, 3) := by decide +kernel
theorem d_O_count_71 : decode b_O_count 71 = .ok (.ireturn, 1) := by decide +kernel
theorem d_O_count_72 : decode b_O_count 72 = .ok (.aload_n 0, 1) := by decide +kernel
theorem d_O_count_73 : decode b_O_count 73 = .ok (.getfield 12, 3) := by decide +kernel
theorem d_O_count_76 : decode b_O_count 76 = .ok (.getfield 260, 3) := by decide +kernel
theorem d_O_count_79 : decode b_O_count 79 = .ok (.invokestatic 139, 3) := by decide +kernel
theorem d_O_count_82 : decode b_O_count 82 = .ok (.ireturn, 1) := by decide +kernel
theorem d_O_count_83 : decode b_O_count 83 = .ok (.aload_n 0, 1) := by decide +kernel
theorem d_O_count_84 : decode b_O_count 84 = .ok (.getfield 12, 3) := by decide +kernel
theorem d_O_count_87 : decode b_O_count 87 = .ok (.aload_n 0, 1) := by decide +kernel
theorem d_O_count_88 : decode b_O_count 88 = .ok (.getfield 12, 3) := by decide +kernel
theorem d_O_count_91 : decode b_O_count 91 = .ok (.getfield 130, 3) := by decide +kernel
theorem d_O_count_94 : decode b_O_count 94 = .ok (.invokevirtual 136, 3) := by decide +kernel
theorem d_O_count_97 : decode b_O_count 97 = .ok (.invokestatic 139, 3) := by decide +kernel
theorem d_O_count_100 : decode b_O_count 100 = .ok (.ireturn, 1) := by decide +kernel
theorem d_O_count_101 : decode b_O_count 101 = .ok (.ldc 48, 2) := by decide +kernel
theorem d_O_count_103 : decode b_O_count 103 = .ok (.ireturn, 1) := by decide +kernel
