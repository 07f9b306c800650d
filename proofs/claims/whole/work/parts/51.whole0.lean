abbrev PO (cl : Nat → ClassId) (h0 : Nat) (ws : va_W) : Prop := ∃ (q5 q16 q27 q38 q50 q69 q77 : Nat) (WF WK : va_W), PF cl q5 WF ∧ PK cl q16 WK ∧ ws = (h0, .inr (0, [.ref q5, .ref q16, .ref q27, .ref q38, .ref q50, .ref q69, .ref q77])) :: ((((((WF ++ WK) ++ [(q27, .inr (3, [.long 0, .long 1]))]) ++ [(q38, .inr (3, [.long 0, .long 1]))]) ++ [(q50, .inl (cl 0, 2, .inl (upd (upd (fun _ => 0) 0 (iI 100)) 1 (iI 1000))))]) ++ [(q69, .inl (cl 0, 12, .inl (fun _ => 0)))]) ++ [(q77, .inl (cl 0, 12, .inl (fun _ => 0)))])
set_option maxRecDepth 20000 in
theorem i_O_init (l : Launch) (D : va_G) (cl : Nat → ClassId) (h0 sz : Nat) : zKi l D cl y_O_init b_O_init 1 3 128 2436 61 h0 (.inr (0, [.null, .null, .null, .null, .null, .null, .null])) sz (PO cl h0) := by
  refine zKi.of "OldBeams" rfl rfl (by decide) (by decide) ?_
  intro G hq C
  show VB G [(h0, _)] 0 0 0 [some (.ref h0)] []
  refine b_ald0 C (pc := 0) d_O_init_0 ?_
  refine b_obj C (pc := 1) k_15 (by decide) (by decide) rfl (by decide) d_O_init_1 ?_
  refine b_ald0 C (pc := 4) d_O_init_4 ?_
  refine b_new C (pc := 5) (Cn := RX_F) (T := TX_F) (Nf := 15) (ci := 1) (fs := [.null, .null, .int 0, .int 0, .null, .null, .null, .null, .int 0, .null, .null, .null, .int 0, .int 0, .int 0]) (tb_lay lay_F) ty_F tyok_F k_18 k_19 k_2 rfl (by decide) (by decide) (by decide) d_O_init_5 (fun q5 => ?_)
  refine b_dup C (pc := 8) rfl d_O_init_8 ?_
  refine b_init C (pc := 9) (y := y_F_init) (bytes := b_F_init) (maxL := 2) (fr2 := 2) (ce2 := 97) (sl2 := 1928) (lc2 := 40) (fun sz => i_F_init _ _ _ _ sz) k_22 k_20 k_21 k_2 (by decide +kernel) rfl (by decide) (by decide) (Nat.le_of_ble_eq_true rfl) rfl d_O_init_9 (fun WF hF => ?_)
  refine b_putF C (pc := 12) (q0 := 0) rfl rfl (tb_lay lay_O) ty_O tyok_O nm_O 0 (by decide) k_201 rfl rfl rfl (ty := .object "OldBeams$Frame") (by decide +kernel) rfl rfl (Nat.le_of_ble_eq_true rfl) d_O_init_12 ?_
  show VB G ((h0, .inr (0, [.ref q5, .null, .null, .null, .null, .null, .null])) :: WF) 98 1943 15 [some (.ref h0)] []
  refine b_ald0 C (pc := 15) d_O_init_15 ?_
  refine b_new C (pc := 16) (Cn := RX_K) (T := TX_K) (Nf := 9) (ci := 2) (fs := [.null, .null, .null, .null, .null, .null, .int 0, .null, .null]) (tb_lay lay_K) ty_K tyok_K k_149 k_150 k_4 rfl (by decide) (by decide) (by decide) d_O_init_16 (fun q16 => ?_)
  refine b_dup C (pc := 19) rfl d_O_init_19 ?_
  refine b_init C (pc := 20) (y := y_K_init) (bytes := b_K_init) (maxL := 3) (fr2 := 1) (ce2 := 24) (sl2 := 454) (lc2 := 20) (fun sz => i_K_init _ _ _ _ sz) k_153 k_151 k_152 k_4 (by decide +kernel) rfl (by decide) (by decide) (Nat.le_of_ble_eq_true rfl) rfl d_O_init_20 (fun WK hK => ?_)
  refine b_putF C (pc := 23) (q0 := 0) rfl rfl (tb_lay lay_O) ty_O tyok_O nm_O 1 (by decide) k_202 rfl rfl rfl (ty := .object "OldBeams$Looks") (by decide +kernel) rfl rfl (Nat.le_of_ble_eq_true rfl) d_O_init_23 ?_
  show VB G ((h0, .inr (0, [.ref q5, .ref q16, .null, .null, .null, .null, .null])) :: (WF ++ WK)) 123 2406 26 [some (.ref h0)] []
  refine b_ald0 C (pc := 26) d_O_init_26 ?_
  refine b_new C (pc := 27) (Cn := RX_Q) (T := TX_Q) (Nf := 2) (ci := 3) (fs := [.long 0, .long 0]) (tb_lay lay_Q) ty_Q tyok_Q k_188 k_189 k_5 rfl (by decide) (by decide) (by decide) d_O_init_27 (fun q27 => ?_)
  refine b_dup C (pc := 30) rfl d_O_init_30 ?_
  refine b_initN C (pc := 31) (y := y_Q_init) (bytes := b_Q_init) (maxL := 1) (fr2 := 1) (ce2 := 0) (sl2 := 0) (lc2 := 20) (fun sz => i_Q_init _ _ _ _ sz) k_192 (fun U h => h.2.2.2) k_191 k_5 (by decide +kernel) rfl (by decide) (by decide) (Nat.le_of_ble_eq_true rfl) rfl d_O_init_31 (fun W3 h3 => ?_)
  obtain ⟨-, rfl⟩ := h3
  refine b_putF C (pc := 34) (q0 := 0) rfl rfl (tb_lay lay_O) ty_O tyok_O nm_O 2 (by decide) k_203 rfl rfl rfl (ty := .object "OldBeams$Fraction") (by decide +kernel) rfl rfl (Nat.le_of_ble_eq_true rfl) d_O_init_34 ?_
  show VB G ((h0, .inr (0, [.ref q5, .ref q16, .ref q27, .null, .null, .null, .null])) :: ((WF ++ WK) ++ [(q27, .inr (3, [.long 0, .long 1]))])) 124 2408 37 [some (.ref h0)] []
  refine b_ald0 C (pc := 37) d_O_init_37 ?_
  refine b_new C (pc := 38) (Cn := RX_Q) (T := TX_Q) (Nf := 2) (ci := 3) (fs := [.long 0, .long 0]) (tb_lay lay_Q) ty_Q tyok_Q k_188 k_189 k_5 rfl (by decide) (by decide) (by decide) d_O_init_38 (fun q38 => ?_)
  refine b_dup C (pc := 41) rfl d_O_init_41 ?_
  refine b_initN C (pc := 42) (y := y_Q_init) (bytes := b_Q_init) (maxL := 1) (fr2 := 1) (ce2 := 0) (sl2 := 0) (lc2 := 20) (fun sz => i_Q_init _ _ _ _ sz) k_192 (fun U h => h.2.2.2) k_191 k_5 (by decide +kernel) rfl (by decide) (by decide) (Nat.le_of_ble_eq_true rfl) rfl d_O_init_42 (fun W4 h4 => ?_)
  obtain ⟨-, rfl⟩ := h4
  refine b_putF C (pc := 45) (q0 := 0) rfl rfl (tb_lay lay_O) ty_O tyok_O nm_O 3 (by decide) k_204 rfl rfl rfl (ty := .object "OldBeams$Fraction") (by decide +kernel) rfl rfl (Nat.le_of_ble_eq_true rfl) d_O_init_45 ?_
  show VB G ((h0, .inr (0, [.ref q5, .ref q16, .ref q27, .ref q38, .null, .null, .null])) :: (((WF ++ WK) ++ [(q27, .inr (3, [.long 0, .long 1]))]) ++ [(q38, .inr (3, [.long 0, .long 1]))])) 125 2410 48 [some (.ref h0)] []
  refine b_ald0 C (pc := 48) d_O_init_48 ?_
  refine b_iconst C (pc := 49) d_O_init_49 ?_
  refine b_newaI C (pc := 50) (N := 2) rfl (by decide) (by decide) (by decide) k_90 d_O_init_50 (fun q50 => ?_)
  show VB G (((h0, .inr (0, [.ref q5, .ref q16, .ref q27, .ref q38, .null, .null, .null])) :: (((WF ++ WK) ++ [(q27, .inr (3, [.long 0, .long 1]))]) ++ [(q38, .inr (3, [.long 0, .long 1]))])) ++ [(q50, .inl (cl 0, 2, .inl (fun _ => 0)))]) 126 2412 52 [some (.ref h0)] [.ref q50, .ref h0]
  refine b_dup C (pc := 52) rfl d_O_init_52 ?_
  refine b_iconst C (pc := 53) d_O_init_53 ?_
  refine b_bipush C (pc := 54) (n := 100) rfl d_O_init_54 ?_
  refine b_iast C (pc := 56) (q0 := ((h0, .inr (0, [.ref q5, .ref q16, .ref q27, .ref q38, .null, .null, .null])) :: (((WF ++ WK) ++ [(q27, .inr (3, [.long 0, .long 1]))]) ++ [(q38, .inr (3, [.long 0, .long 1]))])).length) (last_get _ _) (by decide) (by decide) (by decide) d_O_init_56 ?_
  rw [last_set]
  show VB G (((h0, .inr (0, [.ref q5, .ref q16, .ref q27, .ref q38, .null, .null, .null])) :: (((WF ++ WK) ++ [(q27, .inr (3, [.long 0, .long 1]))]) ++ [(q38, .inr (3, [.long 0, .long 1]))])) ++ [(q50, .inl (cl 0, 2, .inl (upd (fun _ => 0) 0 (iI 100))))]) 126 2412 57 [some (.ref h0)] [.ref q50, .ref h0]
  refine b_dup C (pc := 57) rfl d_O_init_57 ?_
  refine b_iconst C (pc := 58) d_O_init_58 ?_
  refine b_sipush C (pc := 59) (n := 1000) rfl d_O_init_59 ?_
  refine b_iast C (pc := 62) (q0 := ((h0, .inr (0, [.ref q5, .ref q16, .ref q27, .ref q38, .null, .null, .null])) :: (((WF ++ WK) ++ [(q27, .inr (3, [.long 0, .long 1]))]) ++ [(q38, .inr (3, [.long 0, .long 1]))])).length) (last_get _ _) (by decide) (by decide) (by decide) d_O_init_62 ?_
  rw [last_set]
  show VB G (((h0, .inr (0, [.ref q5, .ref q16, .ref q27, .ref q38, .null, .null, .null])) :: (((WF ++ WK) ++ [(q27, .inr (3, [.long 0, .long 1]))]) ++ [(q38, .inr (3, [.long 0, .long 1]))])) ++ [(q50, .inl (cl 0, 2, .inl (upd (upd (fun _ => 0) 0 (iI 100)) 1 (iI 1000))))]) 126 2412 63 [some (.ref h0)] [.ref q50, .ref h0]
  refine b_putF C (pc := 63) (q0 := 0) rfl rfl (tb_lay lay_O) ty_O tyok_O nm_O 4 (by decide) k_205 rfl rfl rfl (ty := .array .int) (by decide +kernel) rfl rfl (Nat.le_of_ble_eq_true rfl) d_O_init_63 ?_
  show VB G ((h0, .inr (0, [.ref q5, .ref q16, .ref q27, .ref q38, .ref q50, .null, .null])) :: ((((WF ++ WK) ++ [(q27, .inr (3, [.long 0, .long 1]))]) ++ [(q38, .inr (3, [.long 0, .long 1]))]) ++ [(q50, .inl (cl 0, 2, .inl (upd (upd (fun _ => 0) 0 (iI 100)) 1 (iI 1000))))])) 126 2412 66 [some (.ref h0)] []
  refine b_ald0 C (pc := 66) d_O_init_66 ?_
  refine b_bipush C (pc := 67) (n := 12) rfl d_O_init_67 ?_
  refine b_newaI C (pc := 69) (N := 12) rfl (by decide) (by decide) (by decide) k_90 d_O_init_69 (fun q69 => ?_)
  refine b_putF C (pc := 71) (q0 := 0) rfl rfl (tb_lay lay_O) ty_O tyok_O nm_O 5 (by decide) k_206 rfl rfl rfl (ty := .array .int) (by decide +kernel) rfl rfl (Nat.le_of_ble_eq_true rfl) d_O_init_71 ?_
  show VB G ((h0, .inr (0, [.ref q5, .ref q16, .ref q27, .ref q38, .ref q50, .ref q69, .null])) :: (((((WF ++ WK) ++ [(q27, .inr (3, [.long 0, .long 1]))]) ++ [(q38, .inr (3, [.long 0, .long 1]))]) ++ [(q50, .inl (cl 0, 2, .inl (upd (upd (fun _ => 0) 0 (iI 100)) 1 (iI 1000))))]) ++ [(q69, .inl (cl 0, 12, .inl (fun _ => 0)))])) 127 2424 74 [some (.ref h0)] []
  refine b_ald0 C (pc := 74) d_O_init_74 ?_
  refine b_bipush C (pc := 75) (n := 12) rfl d_O_init_75 ?_
  refine b_newaI C (pc := 77) (N := 12) rfl (by decide) (by decide) (by decide) k_90 d_O_init_77 (fun q77 => ?_)
  refine b_putF C (pc := 79) (q0 := 0) rfl rfl (tb_lay lay_O) ty_O tyok_O nm_O 6 (by decide) k_207 rfl rfl rfl (ty := .array .int) (by decide +kernel) rfl rfl (Nat.le_of_ble_eq_true rfl) d_O_init_79 ?_
  show VB G ((h0, .inr (0, [.ref q5, .ref q16, .ref q27, .ref q38, .ref q50, .ref q69, .ref q77])) :: ((((((WF ++ WK) ++ [(q27, .inr (3, [.long 0, .long 1]))]) ++ [(q38, .inr (3, [.long 0, .long 1]))]) ++ [(q50, .inl (cl 0, 2, .inl (upd (upd (fun _ => 0) 0 (iI 100)) 1 (iI 1000))))]) ++ [(q69, .inl (cl 0, 12, .inl (fun _ => 0)))]) ++ [(q77, .inl (cl 0, 12, .inl (fun _ => 0)))])) 128 2436 82 [some (.ref h0)] []
  exact b_ret C (pc := 82) hq (by decide) (by decide) ⟨q5, q16, q27, q38, q50, q69, q77, WF, WK, hF, hK, rfl⟩ d_O_init_82
