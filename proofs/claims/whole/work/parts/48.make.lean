set_option maxRecDepth 20000 in
theorem i_B_init (l : Launch) (D : va_G) (h0 sz : Nat) : zKi l D y_B_init b_B_init 1 1 6 130 20 h0 (.inr (4, [.int 0, .int 0, .int 0, .int 0, .int 0, .null, .null, .null, .null, .null, .null, .long 0, .int 0])) sz (fun tys ws => ∃ (q6 : Nat) (c6 : ClassId) (q13 : Nat) (c13 : ClassId) (q20 : Nat) (c20 : ClassId) (q28 : Nat) (c28 : ClassId) (q36 : Nat) (c36 : ClassId) (q43 : Nat) (c43 : ClassId), tys = [(c6, .int), (c13, .int), (c20, .int), (c28, .long), (c36, .long), (c43, .long)] ∧ ws = [(h0, .inr (4, [.int 0, .int 0, .int 0, .int 0, .int 0, .ref q6, .ref q13, .ref q20, .ref q28, .ref q36, .ref q43, .long 0, .int 0])), (q6, .inl (c6, 2, .inl (fun _ => 0))), (q13, .inl (c13, 2, .inl (fun _ => 0))), (q20, .inl (c20, 2, .inl (fun _ => 0))), (q28, .inl (c28, 61, .inr (.inl (fun _ => 0)))), (q36, .inl (c36, 61, .inr (.inl (fun _ => 0)))), (q43, .inl (c43, 2, .inr (.inl (fun _ => 0))))]) := by
  refine zKi.of "OldBeams$Beam" rfl rfl (by decide) (by decide) ?_
  intro G h1 h2 hQ hL C
  show VB G [] [(h0, .inr (4, [.int 0, .int 0, .int 0, .int 0, .int 0, .null, .null, .null, .null, .null, .null, .long 0, .int 0]))] 0 0 0 [some (.ref h0)] []
  refine b_ald0 C (pc := 0) d_B_init_0 ?_
  refine b_obj C (pc := 1) k_32 (by decide) (by decide) rfl (by decide) d_B_init_1 ?_
  refine b_ald0 C (pc := 4) d_B_init_4 ?_
  refine b_iconst C (pc := 5) d_B_init_5 ?_
  refine b_newaI C (pc := 6) (N := 2) rfl (by decide) (by decide) (by decide) k_90 d_B_init_6 (fun q6 c6 => ?_)
  show VB G ([(c6, .int)] : List (ClassId × FieldType)) [(h0, .inr (4, [.int 0, .int 0, .int 0, .int 0, .int 0, .null, .null, .null, .null, .null, .null, .long 0, .int 0])), (q6, .inl (c6, 2, .inl (fun _ => 0)))] 1 2 8 [some (.ref h0)] [.ref q6, .ref h0]
  refine b_putF C (pc := 8) (q0 := 0) rfl rfl (tb_lay lay_B) ty_B tyok_B nm_B 5 (by decide) k_44 rfl rfl rfl (ty := .array .int) (by decide +kernel) rfl rfl (Nat.le_of_ble_eq_true rfl) d_B_init_8 ?_
  show VB G ([(c6, .int)] : List (ClassId × FieldType)) [(h0, .inr (4, [.int 0, .int 0, .int 0, .int 0, .int 0, .ref q6, .null, .null, .null, .null, .null, .long 0, .int 0])), (q6, .inl (c6, 2, .inl (fun _ => 0)))] 1 2 11 [some (.ref h0)] []
  refine b_ald0 C (pc := 11) d_B_init_11 ?_
  refine b_iconst C (pc := 12) d_B_init_12 ?_
  refine b_newaI C (pc := 13) (N := 2) rfl (by decide) (by decide) (by decide) k_90 d_B_init_13 (fun q13 c13 => ?_)
  show VB G ([(c6, .int), (c13, .int)] : List (ClassId × FieldType)) [(h0, .inr (4, [.int 0, .int 0, .int 0, .int 0, .int 0, .ref q6, .null, .null, .null, .null, .null, .long 0, .int 0])), (q6, .inl (c6, 2, .inl (fun _ => 0))), (q13, .inl (c13, 2, .inl (fun _ => 0)))] 2 4 15 [some (.ref h0)] [.ref q13, .ref h0]
  refine b_putF C (pc := 15) (q0 := 0) rfl rfl (tb_lay lay_B) ty_B tyok_B nm_B 6 (by decide) k_46 rfl rfl rfl (ty := .array .int) (by decide +kernel) rfl rfl (Nat.le_of_ble_eq_true rfl) d_B_init_15 ?_
  show VB G ([(c6, .int), (c13, .int)] : List (ClassId × FieldType)) [(h0, .inr (4, [.int 0, .int 0, .int 0, .int 0, .int 0, .ref q6, .ref q13, .null, .null, .null, .null, .long 0, .int 0])), (q6, .inl (c6, 2, .inl (fun _ => 0))), (q13, .inl (c13, 2, .inl (fun _ => 0)))] 2 4 18 [some (.ref h0)] []
  refine b_ald0 C (pc := 18) d_B_init_18 ?_
  refine b_iconst C (pc := 19) d_B_init_19 ?_
  refine b_newaI C (pc := 20) (N := 2) rfl (by decide) (by decide) (by decide) k_90 d_B_init_20 (fun q20 c20 => ?_)
  show VB G ([(c6, .int), (c13, .int), (c20, .int)] : List (ClassId × FieldType)) [(h0, .inr (4, [.int 0, .int 0, .int 0, .int 0, .int 0, .ref q6, .ref q13, .null, .null, .null, .null, .long 0, .int 0])), (q6, .inl (c6, 2, .inl (fun _ => 0))), (q13, .inl (c13, 2, .inl (fun _ => 0))), (q20, .inl (c20, 2, .inl (fun _ => 0)))] 3 6 22 [some (.ref h0)] [.ref q20, .ref h0]
  refine b_putF C (pc := 22) (q0 := 0) rfl rfl (tb_lay lay_B) ty_B tyok_B nm_B 7 (by decide) k_49 rfl rfl rfl (ty := .array .int) (by decide +kernel) rfl rfl (Nat.le_of_ble_eq_true rfl) d_B_init_22 ?_
  show VB G ([(c6, .int), (c13, .int), (c20, .int)] : List (ClassId × FieldType)) [(h0, .inr (4, [.int 0, .int 0, .int 0, .int 0, .int 0, .ref q6, .ref q13, .ref q20, .null, .null, .null, .long 0, .int 0])), (q6, .inl (c6, 2, .inl (fun _ => 0))), (q13, .inl (c13, 2, .inl (fun _ => 0))), (q20, .inl (c20, 2, .inl (fun _ => 0)))] 3 6 25 [some (.ref h0)] []
  refine b_ald0 C (pc := 25) d_B_init_25 ?_
  refine b_bipush C (pc := 26) (n := 61) rfl d_B_init_26 ?_
  refine b_newaJ C (pc := 28) (N := 61) rfl (by decide) (by decide) (by decide) k_92 d_B_init_28 (fun q28 c28 => ?_)
  show VB G ([(c6, .int), (c13, .int), (c20, .int), (c28, .long)] : List (ClassId × FieldType)) [(h0, .inr (4, [.int 0, .int 0, .int 0, .int 0, .int 0, .ref q6, .ref q13, .ref q20, .null, .null, .null, .long 0, .int 0])), (q6, .inl (c6, 2, .inl (fun _ => 0))), (q13, .inl (c13, 2, .inl (fun _ => 0))), (q20, .inl (c20, 2, .inl (fun _ => 0))), (q28, .inl (c28, 61, .inr (.inl (fun _ => 0))))] 4 67 30 [some (.ref h0)] [.ref q28, .ref h0]
  refine b_putF C (pc := 30) (q0 := 0) rfl rfl (tb_lay lay_B) ty_B tyok_B nm_B 8 (by decide) k_51 rfl rfl rfl (ty := .array .long) (by decide +kernel) rfl rfl (Nat.le_of_ble_eq_true rfl) d_B_init_30 ?_
  show VB G ([(c6, .int), (c13, .int), (c20, .int), (c28, .long)] : List (ClassId × FieldType)) [(h0, .inr (4, [.int 0, .int 0, .int 0, .int 0, .int 0, .ref q6, .ref q13, .ref q20, .ref q28, .null, .null, .long 0, .int 0])), (q6, .inl (c6, 2, .inl (fun _ => 0))), (q13, .inl (c13, 2, .inl (fun _ => 0))), (q20, .inl (c20, 2, .inl (fun _ => 0))), (q28, .inl (c28, 61, .inr (.inl (fun _ => 0))))] 4 67 33 [some (.ref h0)] []
  refine b_ald0 C (pc := 33) d_B_init_33 ?_
  refine b_bipush C (pc := 34) (n := 61) rfl d_B_init_34 ?_
  refine b_newaJ C (pc := 36) (N := 61) rfl (by decide) (by decide) (by decide) k_92 d_B_init_36 (fun q36 c36 => ?_)
  show VB G ([(c6, .int), (c13, .int), (c20, .int), (c28, .long), (c36, .long)] : List (ClassId × FieldType)) [(h0, .inr (4, [.int 0, .int 0, .int 0, .int 0, .int 0, .ref q6, .ref q13, .ref q20, .ref q28, .null, .null, .long 0, .int 0])), (q6, .inl (c6, 2, .inl (fun _ => 0))), (q13, .inl (c13, 2, .inl (fun _ => 0))), (q20, .inl (c20, 2, .inl (fun _ => 0))), (q28, .inl (c28, 61, .inr (.inl (fun _ => 0)))), (q36, .inl (c36, 61, .inr (.inl (fun _ => 0))))] 5 128 38 [some (.ref h0)] [.ref q36, .ref h0]
  refine b_putF C (pc := 38) (q0 := 0) rfl rfl (tb_lay lay_B) ty_B tyok_B nm_B 9 (by decide) k_53 rfl rfl rfl (ty := .array .long) (by decide +kernel) rfl rfl (Nat.le_of_ble_eq_true rfl) d_B_init_38 ?_
  show VB G ([(c6, .int), (c13, .int), (c20, .int), (c28, .long), (c36, .long)] : List (ClassId × FieldType)) [(h0, .inr (4, [.int 0, .int 0, .int 0, .int 0, .int 0, .ref q6, .ref q13, .ref q20, .ref q28, .ref q36, .null, .long 0, .int 0])), (q6, .inl (c6, 2, .inl (fun _ => 0))), (q13, .inl (c13, 2, .inl (fun _ => 0))), (q20, .inl (c20, 2, .inl (fun _ => 0))), (q28, .inl (c28, 61, .inr (.inl (fun _ => 0)))), (q36, .inl (c36, 61, .inr (.inl (fun _ => 0))))] 5 128 41 [some (.ref h0)] []
  refine b_ald0 C (pc := 41) d_B_init_41 ?_
  refine b_iconst C (pc := 42) d_B_init_42 ?_
  refine b_newaJ C (pc := 43) (N := 2) rfl (by decide) (by decide) (by decide) k_92 d_B_init_43 (fun q43 c43 => ?_)
  show VB G ([(c6, .int), (c13, .int), (c20, .int), (c28, .long), (c36, .long), (c43, .long)] : List (ClassId × FieldType)) [(h0, .inr (4, [.int 0, .int 0, .int 0, .int 0, .int 0, .ref q6, .ref q13, .ref q20, .ref q28, .ref q36, .null, .long 0, .int 0])), (q6, .inl (c6, 2, .inl (fun _ => 0))), (q13, .inl (c13, 2, .inl (fun _ => 0))), (q20, .inl (c20, 2, .inl (fun _ => 0))), (q28, .inl (c28, 61, .inr (.inl (fun _ => 0)))), (q36, .inl (c36, 61, .inr (.inl (fun _ => 0)))), (q43, .inl (c43, 2, .inr (.inl (fun _ => 0))))] 6 130 45 [some (.ref h0)] [.ref q43, .ref h0]
  refine b_putF C (pc := 45) (q0 := 0) rfl rfl (tb_lay lay_B) ty_B tyok_B nm_B 10 (by decide) k_55 rfl rfl rfl (ty := .array .long) (by decide +kernel) rfl rfl (Nat.le_of_ble_eq_true rfl) d_B_init_45 ?_
  show VB G ([(c6, .int), (c13, .int), (c20, .int), (c28, .long), (c36, .long), (c43, .long)] : List (ClassId × FieldType)) [(h0, .inr (4, [.int 0, .int 0, .int 0, .int 0, .int 0, .ref q6, .ref q13, .ref q20, .ref q28, .ref q36, .ref q43, .long 0, .int 0])), (q6, .inl (c6, 2, .inl (fun _ => 0))), (q13, .inl (c13, 2, .inl (fun _ => 0))), (q20, .inl (c20, 2, .inl (fun _ => 0))), (q28, .inl (c28, 61, .inr (.inl (fun _ => 0)))), (q36, .inl (c36, 61, .inr (.inl (fun _ => 0)))), (q43, .inl (c43, 2, .inr (.inl (fun _ => 0))))] 6 130 48 [some (.ref h0)] []
  exact b_ret C (pc := 48) h1 h2 hQ (by decide) (by decide) ⟨q6, c6, q13, c13, q20, c20, q28, c28, q36, c36, q43, c43, rfl, rfl⟩ d_B_init_48
set_option maxRecDepth 20000 in
theorem i_Q_init (l : Launch) (D : va_G) (h0 sz : Nat) : zKi l D y_Q_init b_Q_init 1 1 0 0 20 h0 (.inr (3, [.long 0, .long 0])) sz (fun tys ws => True ∧ tys = [] ∧ ws = [(h0, .inr (3, [.long 0, .long 1]))]) := by
  refine zKi.of "OldBeams$Fraction" rfl rfl (by decide) (by decide) ?_
  intro G h1 h2 hQ hL C
  show VB G [] [(h0, .inr (3, [.long 0, .long 0]))] 0 0 0 [some (.ref h0)] []
  refine b_ald0 C (pc := 0) d_Q_init_0 ?_
  refine b_obj C (pc := 1) k_193 (by decide) (by decide) rfl (by decide) d_Q_init_1 ?_
  refine b_ald0 C (pc := 4) d_Q_init_4 ?_
  refine b_lconst C (pc := 5) (v := 0) rfl d_Q_init_5 ?_
  refine b_put C (pc := 6) (q0 := 0) rfl rfl (tb_lay lay_Q) ty_Q tyok_Q nm_Q 0 (by decide) k_194 rfl rfl (ty := .long) (by decide +kernel) rfl rfl (Nat.le_of_ble_eq_true rfl) d_Q_init_6 ?_
  show VB G ([] : List (ClassId × FieldType)) [(h0, .inr (3, [.long 0, .long 0]))] 0 0 9 [some (.ref h0)] []
  refine b_ald0 C (pc := 9) d_Q_init_9 ?_
  refine b_lconst C (pc := 10) (v := 1) rfl d_Q_init_10 ?_
  refine b_put C (pc := 11) (q0 := 0) rfl rfl (tb_lay lay_Q) ty_Q tyok_Q nm_Q 1 (by decide) k_195 rfl rfl (ty := .long) (by decide +kernel) rfl rfl (Nat.le_of_ble_eq_true rfl) d_Q_init_11 ?_
  show VB G ([] : List (ClassId × FieldType)) [(h0, .inr (3, [.long 0, .long 1]))] 0 0 14 [some (.ref h0)] []
  exact b_ret C (pc := 14) h1 h2 hQ (by decide) (by decide) ⟨trivial, rfl, rfl⟩ d_Q_init_14
