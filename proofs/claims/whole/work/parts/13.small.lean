set_option maxRecDepth 20000 in
theorem c_O_within (l : Launch) (E : zE) (M : zM) (v a b : Int) (hv : -2147483648 ≤ v ∧ v < 2147483648) (ha : -2147483648 ≤ a ∧ a < 2147483648) (hb : -2147483648 ≤ b ∧ b < 2147483648) : zK l sX E y_O_within b_O_within 3 (some .boolean) 0 0 [.int (iI v), .int (iI a), .int (iI b)] M (zPi (fun r M2 => r = zb (a ≤ v ∧ v ≤ b) ∧ M = M2)) := by
  refine zK.of "OldBeams" rfl (by decide) (Nat.le_of_ble_eq_true rfl) ?_
  intro G hS hE hQ hL C
  subst hE
  subst hL
  show VJ G M 0 [some (.int (iI v)), some (.int (iI a)), some (.int (iI b))] []
  refine r_ild0 C (pc := 0) d_O_within_0 ?_
  refine r_ild1 C (pc := 1) d_O_within_1 ?_
  refine r_icmp_lt C (pc := 2) (tgt := 14) (by omega) (by omega) d_O_within_2 (by decide) (fun c2 => ?_) (fun c2 => ?_)
  · refine r_iconst C (pc := 14) d_O_within_14 ?_
    exact r_zret C (pc := 15) hQ (by first | exact Or.inl rfl | exact Or.inr rfl | exact zb_01 _ | assumption) (⟨by first | rw [zb_pos (by omega)] | rw [zb_neg (by omega)], rfl⟩) d_O_within_15
  · refine r_ild0 C (pc := 5) d_O_within_5 ?_
    refine r_ild2 C (pc := 6) d_O_within_6 ?_
    refine r_icmp_gt C (pc := 7) (tgt := 14) (by omega) (by omega) d_O_within_7 (by decide) (fun c7 => ?_) (fun c7 => ?_)
    · refine r_iconst C (pc := 14) d_O_within_14 ?_
      exact r_zret C (pc := 15) hQ (by first | exact Or.inl rfl | exact Or.inr rfl | exact zb_01 _ | assumption) (⟨by first | rw [zb_pos (by omega)] | rw [zb_neg (by omega)], rfl⟩) d_O_within_15
    · refine r_iconst C (pc := 10) d_O_within_10 ?_
      refine r_goto C (pc := 11) (tgt := 15) d_O_within_11 (by decide) ?_
      exact r_zret C (pc := 15) hQ (by first | exact Or.inl rfl | exact Or.inr rfl | exact zb_01 _ | assumption) (⟨by first | rw [zb_pos (by omega)] | rw [zb_neg (by omega)], rfl⟩) d_O_within_15
set_option maxRecDepth 20000 in
theorem c_O_isYear (l : Launch) (E : zE) (M : zM) (v : Int) (hv : -2147483648 ≤ v ∧ v < 2147483648) : zK l sX E y_O_isYear b_O_isYear 1 (some .boolean) 1 22 [.int (iI v)] M (zPi (fun r M2 => r = zb (0 ≤ v ∧ v ≤ 500) ∧ M = M2)) := by
  refine zK.of "OldBeams" rfl (by decide) (Nat.le_of_ble_eq_true rfl) ?_
  intro G hS hE hQ hL C
  subst hE
  subst hL
  show VJ G M 0 [some (.int (iI v))] []
  refine r_ild0 C (pc := 0) d_O_isYear_0 ?_
  refine r_iconst C (pc := 1) d_O_isYear_1 ?_
  refine r_sipush C (pc := 2) (n := 500) rfl d_O_isYear_2 ?_
  refine call_O_within C (pc := 5) hS (c_O_within _ _ _ _ _ _ (by omega) (by omega) (by omega)) k_227 (by decide) (Nat.le_of_ble_eq_true rfl) rfl d_O_isYear_5 (kkI (fun r5 N5 h5 => ?_))
  obtain ⟨rfl, rfl⟩ := h5
  exact r_zret C (pc := 8) hQ (by first | exact Or.inl rfl | exact Or.inr rfl | exact zb_01 _ | assumption) (⟨rfl, rfl⟩) d_O_isYear_8
set_option maxRecDepth 20000 in
theorem c_O_isTool (l : Launch) (E : zE) (M : zM) (v : Int) (hv : -2147483648 ≤ v ∧ v < 2147483648) : zK l sX E y_O_isTool b_O_isTool 1 (some .boolean) 1 22 [.int (iI v)] M (zPi (fun r M2 => r = zb (0 ≤ v ∧ v ≤ 3) ∧ M = M2)) := by
  refine zK.of "OldBeams" rfl (by decide) (Nat.le_of_ble_eq_true rfl) ?_
  intro G hS hE hQ hL C
  subst hE
  subst hL
  show VJ G M 0 [some (.int (iI v))] []
  refine r_ild0 C (pc := 0) d_O_isTool_0 ?_
  refine r_iconst C (pc := 1) d_O_isTool_1 ?_
  refine r_iconst C (pc := 2) d_O_isTool_2 ?_
  refine call_O_within C (pc := 3) hS (c_O_within _ _ _ _ _ _ (by omega) (by omega) (by omega)) k_227 (by decide) (Nat.le_of_ble_eq_true rfl) rfl d_O_isTool_3 (kkI (fun r3 N3 h3 => ?_))
  obtain ⟨rfl, rfl⟩ := h3
  exact r_zret C (pc := 6) hQ (by first | exact Or.inl rfl | exact Or.inr rfl | exact zb_01 _ | assumption) (⟨rfl, rfl⟩) d_O_isTool_6
set_option maxRecDepth 20000 in
theorem c_O_areYears (l : Launch) (E : zE) (M : zM) (v w : Int) (hv : -2147483648 ≤ v ∧ v < 2147483648) (hw : -2147483648 ≤ w ∧ w < 2147483648) : zK l sX E y_O_areYears b_O_areYears 2 (some .boolean) 2 42 [.int (iI v), .int (iI w)] M (zPi (fun r M2 => r = zb (0 ≤ v ∧ v ≤ w ∧ w ≤ 500) ∧ M = M2)) := by
  refine zK.of "OldBeams" rfl (by decide) (Nat.le_of_ble_eq_true rfl) ?_
  intro G hS hE hQ hL C
  subst hE
  subst hL
  show VJ G M 0 [some (.int (iI v)), some (.int (iI w))] []
  refine r_ild0 C (pc := 0) d_O_areYears_0 ?_
  refine call_O_isYear C (pc := 1) hS (c_O_isYear _ _ _ _ (by omega)) k_236 (by decide) (Nat.le_of_ble_eq_true rfl) rfl d_O_areYears_1 (kkI (fun r1 N1 h1 => ?_))
  obtain ⟨rfl, rfl⟩ := h1
  refine r_ifeqB C (pc := 4) (tgt := 23) d_O_areYears_4 (by decide) (fun c4 => ?_) (fun c4 => ?_)
  · refine r_iconst C (pc := 23) d_O_areYears_23 ?_
    exact r_zret C (pc := 24) hQ (by first | exact Or.inl rfl | exact Or.inr rfl | exact zb_01 _ | assumption) (⟨by first | rw [zb_pos (by omega)] | rw [zb_neg (by omega)], rfl⟩) d_O_areYears_24
  · refine r_ild1 C (pc := 7) d_O_areYears_7 ?_
    refine call_O_isYear C (pc := 8) hS (c_O_isYear _ _ _ _ (by omega)) k_236 (by decide) (Nat.le_of_ble_eq_true rfl) rfl d_O_areYears_8 (kkI (fun r8 N8 h8 => ?_))
    obtain ⟨rfl, rfl⟩ := h8
    refine r_ifeqB C (pc := 11) (tgt := 23) d_O_areYears_11 (by decide) (fun c11 => ?_) (fun c11 => ?_)
    · refine r_iconst C (pc := 23) d_O_areYears_23 ?_
      exact r_zret C (pc := 24) hQ (by first | exact Or.inl rfl | exact Or.inr rfl | exact zb_01 _ | assumption) (⟨by first | rw [zb_pos (by omega)] | rw [zb_neg (by omega)], rfl⟩) d_O_areYears_24
    · refine r_ild1 C (pc := 14) d_O_areYears_14 ?_
      refine r_ild0 C (pc := 15) d_O_areYears_15 ?_
      refine r_icmp_lt C (pc := 16) (tgt := 23) (by omega) (by omega) d_O_areYears_16 (by decide) (fun c16 => ?_) (fun c16 => ?_)
      · refine r_iconst C (pc := 23) d_O_areYears_23 ?_
        exact r_zret C (pc := 24) hQ (by first | exact Or.inl rfl | exact Or.inr rfl | exact zb_01 _ | assumption) (⟨by first | rw [zb_pos (by omega)] | rw [zb_neg (by omega)], rfl⟩) d_O_areYears_24
      · refine r_iconst C (pc := 19) d_O_areYears_19 ?_
        refine r_goto C (pc := 20) (tgt := 24) d_O_areYears_20 (by decide) ?_
        exact r_zret C (pc := 24) hQ (by first | exact Or.inl rfl | exact Or.inr rfl | exact zb_01 _ | assumption) (⟨by first | rw [zb_pos (by omega)] | rw [zb_neg (by omega)], rfl⟩) d_O_areYears_24
set_option maxRecDepth 20000 in
theorem c_O_asNumber (l : Launch) (E : zE) (M : zM) (z : Int) (h01 : z = 0 ∨ z = 1) : zK l sX E y_O_asNumber b_O_asNumber 1 (some .int) 0 0 [.int (iI z)] M (zPi (fun r M2 => r = z ∧ M = M2)) := by
  refine zK.of "OldBeams" rfl (by decide) (Nat.le_of_ble_eq_true rfl) ?_
  intro G hS hE hQ hL C
  subst hE
  subst hL
  show VJ G M 0 [some (.int (iI z))] []
  refine r_ild0 C (pc := 0) d_O_asNumber_0 ?_
  refine r_if_eq C (pc := 1) (tgt := 8) (by omega) d_O_asNumber_1 (by decide) (fun c1 => ?_) (fun c1 => ?_)
  · refine r_iconst C (pc := 8) d_O_asNumber_8 ?_
    exact r_iret C (pc := 9) hQ (⟨by omega, rfl⟩) d_O_asNumber_9
  · refine r_iconst C (pc := 4) d_O_asNumber_4 ?_
    refine r_goto C (pc := 5) (tgt := 9) d_O_asNumber_5 (by decide) ?_
    exact r_iret C (pc := 9) hQ (⟨by omega, rfl⟩) d_O_asNumber_9
set_option maxRecDepth 20000 in
theorem c_F_hasBeam (l : Launch) (E : zE) (M : zM) (b : Int) (hb : -2147483648 ≤ b ∧ b < 2147483648) (hn : 0 ≤ M.1 1 2 ∧ M.1 1 2 ≤ 12) : zK l sX E y_F_hasBeam b_F_hasBeam 2 (some .boolean) 1 22 [.ref (E.2.2 1), .int (iI b)] M (zPi (fun r M2 => r = zb (0 ≤ b ∧ b < M.1 1 2) ∧ M = M2)) := by
  refine zK.of "OldBeams$Frame" rfl (by decide) (Nat.le_of_ble_eq_true rfl) ?_
  intro G hS hE hQ hL C
  subst hE
  subst hL
  show VJ G M 0 [some (.ref (G.2.1.2.2 1)), some (.int (iI b))] []
  refine r_ild1 C (pc := 0) d_F_hasBeam_0 ?_
  refine r_iconst C (pc := 1) d_F_hasBeam_1 ?_
  refine r_ald0 C (pc := 2) d_F_hasBeam_2 ?_
  refine gX_F_beamCount C (pc := 3) hS k_97 d_F_hasBeam_3 ?_
  refine r_iconst C (pc := 6) d_F_hasBeam_6 ?_
  refine r_isub C (pc := 7) d_F_hasBeam_7 ?_
  refine calln_O_within C (pc := 8) hS rfl rfl (c_O_within _ _ _ _ _ _ (by omega) (by omega) (by omega)) (by decide) (Nat.le_of_ble_eq_true rfl) rfl d_F_hasBeam_8 (kkI (fun r8 N8 h8 => ?_))
  obtain ⟨rfl, rfl⟩ := h8
  exact r_zret C (pc := 11) hQ (by first | exact Or.inl rfl | exact Or.inr rfl | exact zb_01 _ | assumption) (⟨zb_congr (by omega), rfl⟩) d_F_hasBeam_11
