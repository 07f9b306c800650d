set_option maxRecDepth 20000 in
theorem c_O_kind (l : Launch) (E : zE) (M : zM) (S : zS) (hR : RX S M) (hO : ok S) (k w v : Int) (hk : -2147483648 ≤ k ∧ k < 2147483648) (hw : -2147483648 ≤ w ∧ w < 2147483648) (hv : -2147483648 ≤ v ∧ v < 2147483648) : zK l sX E y_O_kind b_O_kind 6 (some .int) 1 22 [.ref (E.2.2 0), .int (iI k), .int (iI w), .int (iI v)] M (zPi (fun r M2 => r = fKind S k w v ∧ RX (gKind S k w v) M2)) := by
  refine zK.of "OldBeams" rfl (by decide) (Nat.le_of_ble_eq_true rfl) ?_
  intro G hS hE hQ hL C
  subst hE
  subst hL
  show VJ G M 0 [some (.ref (G.2.1.2.2 0)), some (.int (iI k)), some (.int (iI w)), some (.int (iI v)), none, none] []
  have h12 := hO.n
  have hbn := hR.n
  refine r_ild1 C (pc := 0) d_O_kind_0 ?_
  refine r_iconst C (pc := 1) d_O_kind_1 ?_
  refine r_iconst C (pc := 2) d_O_kind_2 ?_
  refine call_O_within C (pc := 3) hS (c_O_within _ _ _ _ _ _ (by omega) (by omega) (by omega)) k_227 (by decide) (Nat.le_of_ble_eq_true rfl) rfl d_O_kind_3 (kkI (fun r3 N3 h3 => ?_))
  obtain ⟨rfl, rfl⟩ := h3
  refine r_ifneB C (pc := 6) (tgt := 12) d_O_kind_6 (by decide) (fun c6 => ?_) (fun c6 => ?_)
  · obtain ⟨k, rfl⟩ := Int.eq_ofNat_of_zero_le c6.1
    refine r_ild2 C (pc := 12) d_O_kind_12 ?_
    refine r_iconst C (pc := 13) d_O_kind_13 ?_
    refine r_iconst C (pc := 14) d_O_kind_14 ?_
    refine call_O_within C (pc := 15) hS (c_O_within _ _ _ _ _ _ (by omega) (by omega) (by omega)) k_227 (by decide) (Nat.le_of_ble_eq_true rfl) rfl d_O_kind_15 (kkI (fun r15 N15 h15 => ?_))
    obtain ⟨rfl, rfl⟩ := h15
    refine r_ifneB C (pc := 18) (tgt := 24) d_O_kind_18 (by decide) (fun c18 => ?_) (fun c18 => ?_)
    · obtain ⟨w, rfl⟩ := Int.eq_ofNat_of_zero_le c18.1
      refine r_ild2 C (pc := 24) d_O_kind_24 ?_
      refine r_if_ne C (pc := 25) (tgt := 39) (by omega) d_O_kind_25 (by decide) (fun c25 => ?_) (fun c25 => ?_)
      · refine r_ild3 C (pc := 39) d_O_kind_39 ?_
        refine r_iconst C (pc := 40) d_O_kind_40 ?_
        refine r_bipush C (pc := 41) (n := 10) rfl d_O_kind_41 ?_
        refine call_O_within C (pc := 43) hS (c_O_within _ _ _ _ _ _ (by omega) (by omega) (by omega)) k_227 (by decide) (Nat.le_of_ble_eq_true rfl) rfl d_O_kind_43 (kkI (fun r43 N43 h43 => ?_))
        obtain ⟨rfl, rfl⟩ := h43
        refine r_ist4 C (pc := 46) rfl d_O_kind_46 ?_
        refine r_ild4 C (pc := 48) d_O_kind_48 ?_
        refine r_ifneB C (pc := 50) (tgt := 56) d_O_kind_50 (by decide) (fun c50 => ?_) (fun c50 => ?_)
        · refine r_ald0 C (pc := 56) d_O_kind_56 ?_
          refine gX_O_frame C (pc := 57) hS k_201 d_O_kind_57 ?_
          refine gX_F_kinds C (pc := 60) hS k_94 d_O_kind_60 ?_
          refine r_ild1 C (pc := 63) d_O_kind_63 ?_
          refine X_kindsN C (pc := 64) hS (k) (by omega) (by omega) d_O_kind_64 ?_
          refine r_ild2 C (pc := 65) d_O_kind_65 ?_
          refine X_ialdN C (pc := 66) hS (w) (by omega) (shKr (by omega)) (by omega) (by omega) (by decide) d_O_kind_66 ?_
          rw [hR.2.1 k (by omega) w (by omega)]
          refine r_ist5 C (pc := 67) rfl d_O_kind_67 ?_
          refine r_ald0 C (pc := 69) d_O_kind_69 ?_
          refine gX_O_frame C (pc := 70) hS k_201 d_O_kind_70 ?_
          refine gX_F_kinds C (pc := 73) hS k_94 d_O_kind_73 ?_
          refine r_ild1 C (pc := 76) d_O_kind_76 ?_
          refine X_kindsN C (pc := 77) hS (k) (by omega) (by omega) d_O_kind_77 ?_
          refine r_ild2 C (pc := 78) d_O_kind_78 ?_
          refine r_ild3 C (pc := 79) d_O_kind_79 ?_
          refine X_iastN C (pc := 80) hS (w) (by omega) (shKr (by omega)) (by omega) (by omega) (by decide)  d_O_kind_80 ?_
          refine r_ild5 C (pc := 81) d_O_kind_81 ?_
          exact r_iret C (pc := 83) hQ (⟨by unfold fKind; rw [if_neg (by omega), if_neg (by omega), Int.toNat_natCast, Int.toNat_natCast], by unfold gKind; rw [if_pos (by omega), Int.toNat_natCast, Int.toNat_natCast]; exact RX_kind hR hO (by omega) (by omega)⟩) d_O_kind_83
        · refine r_ldc C (pc := 53) (z := (-900002)) k_231 rfl d_O_kind_53 ?_
          exact r_iret C (pc := 55) hQ (⟨by unfold fKind; rw [if_neg (by omega), if_pos (by omega)], by unfold gKind; rw [if_neg (by omega)]; exact hR⟩) d_O_kind_55
      · refine r_ild3 C (pc := 28) d_O_kind_28 ?_
        refine r_iconst C (pc := 29) d_O_kind_29 ?_
        refine r_sipush C (pc := 30) (n := 999) rfl d_O_kind_30 ?_
        refine call_O_within C (pc := 33) hS (c_O_within _ _ _ _ _ _ (by omega) (by omega) (by omega)) k_227 (by decide) (Nat.le_of_ble_eq_true rfl) rfl d_O_kind_33 (kkI (fun r33 N33 h33 => ?_))
        obtain ⟨rfl, rfl⟩ := h33
        refine r_goto C (pc := 36) (tgt := 46) d_O_kind_36 (by decide) ?_
        refine r_ist4 C (pc := 46) rfl d_O_kind_46 ?_
        refine r_ild4 C (pc := 48) d_O_kind_48 ?_
        refine r_ifneB C (pc := 50) (tgt := 56) d_O_kind_50 (by decide) (fun c50 => ?_) (fun c50 => ?_)
        · refine r_ald0 C (pc := 56) d_O_kind_56 ?_
          refine gX_O_frame C (pc := 57) hS k_201 d_O_kind_57 ?_
          refine gX_F_kinds C (pc := 60) hS k_94 d_O_kind_60 ?_
          refine r_ild1 C (pc := 63) d_O_kind_63 ?_
          refine X_kindsN C (pc := 64) hS (k) (by omega) (by omega) d_O_kind_64 ?_
          refine r_ild2 C (pc := 65) d_O_kind_65 ?_
          refine X_ialdN C (pc := 66) hS (w) (by omega) (shKr (by omega)) (by omega) (by omega) (by decide) d_O_kind_66 ?_
          rw [hR.2.1 k (by omega) w (by omega)]
          refine r_ist5 C (pc := 67) rfl d_O_kind_67 ?_
          refine r_ald0 C (pc := 69) d_O_kind_69 ?_
          refine gX_O_frame C (pc := 70) hS k_201 d_O_kind_70 ?_
          refine gX_F_kinds C (pc := 73) hS k_94 d_O_kind_73 ?_
          refine r_ild1 C (pc := 76) d_O_kind_76 ?_
          refine X_kindsN C (pc := 77) hS (k) (by omega) (by omega) d_O_kind_77 ?_
          refine r_ild2 C (pc := 78) d_O_kind_78 ?_
          refine r_ild3 C (pc := 79) d_O_kind_79 ?_
          refine X_iastN C (pc := 80) hS (w) (by omega) (shKr (by omega)) (by omega) (by omega) (by decide)  d_O_kind_80 ?_
          refine r_ild5 C (pc := 81) d_O_kind_81 ?_
          exact r_iret C (pc := 83) hQ (⟨by unfold fKind; rw [if_neg (by omega), if_neg (by omega), Int.toNat_natCast, Int.toNat_natCast], by unfold gKind; rw [if_pos (by omega), Int.toNat_natCast, Int.toNat_natCast]; exact RX_kind hR hO (by omega) (by omega)⟩) d_O_kind_83
        · refine r_ldc C (pc := 53) (z := (-900002)) k_231 rfl d_O_kind_53 ?_
          exact r_iret C (pc := 55) hQ (⟨by unfold fKind; rw [if_neg (by omega), if_pos (by omega)], by unfold gKind; rw [if_neg (by omega)]; exact hR⟩) d_O_kind_55
    · refine r_ldc C (pc := 21) (z := (-900002)) k_231 rfl d_O_kind_21 ?_
      exact r_iret C (pc := 23) hQ (⟨by unfold fKind; rw [if_neg (by omega), if_pos (by omega)], by unfold gKind; rw [if_neg (by omega)]; exact hR⟩) d_O_kind_23
  · refine r_ldc C (pc := 9) (z := (-900001)) k_230 rfl d_O_kind_9 ?_
    exact r_iret C (pc := 11) hQ (⟨by unfold fKind; rw [if_pos (by omega)], by unfold gKind; rw [if_neg (by omega)]; exact hR⟩) d_O_kind_11
set_option maxRecDepth 20000 in
theorem c_O_beam (l : Launch) (E : zE) (M : zM) (S : zS) (hR : RX S M) (hO : ok S) (k l9 w h y : Int) (hk : -2147483648 ≤ k ∧ k < 2147483648) (hl9 : -2147483648 ≤ l9 ∧ l9 < 2147483648) (hw : -2147483648 ≤ w ∧ w < 2147483648) (hh : -2147483648 ≤ h ∧ h < 2147483648) (hy : -2147483648 ≤ y ∧ y < 2147483648) : zK l sX E y_O_beam b_O_beam 6 (some .int) 3 73 [.ref (E.2.2 0), .int (iI k), .int (iI l9), .int (iI w), .int (iI h), .int (iI y)] M (zPi (fun r M2 => r = fBeam S k l9 w h y ∧ RX (gBeam S k l9 w h y) M2)) := by
  refine zK.of "OldBeams" rfl (by decide) (Nat.le_of_ble_eq_true rfl) ?_
  intro G hS hE hQ hL C
  subst hE
  subst hL
  show VJ G M 0 [some (.ref (G.2.1.2.2 0)), some (.int (iI k)), some (.int (iI l9)), some (.int (iI w)), some (.int (iI h)), some (.int (iI y))] []
  have h12 := hO.n
  have hbn := hR.n
  refine r_ild1 C (pc := 0) d_O_beam_0 ?_
  refine r_iconst C (pc := 1) d_O_beam_1 ?_
  refine r_iconst C (pc := 2) d_O_beam_2 ?_
  refine call_O_within C (pc := 3) hS (c_O_within _ _ _ _ _ _ (by omega) (by omega) (by omega)) k_227 (by decide) (Nat.le_of_ble_eq_true rfl) rfl d_O_beam_3 (kkI (fun r3 N3 h3 => ?_))
  obtain ⟨rfl, rfl⟩ := h3
  refine r_ifneB C (pc := 6) (tgt := 12) d_O_beam_6 (by decide) (fun c6 => ?_) (fun c6 => ?_)
  · refine r_ild2 C (pc := 12) d_O_beam_12 ?_
    refine r_iconst C (pc := 13) d_O_beam_13 ?_
    refine r_bipush C (pc := 14) (n := 60) rfl d_O_beam_14 ?_
    refine call_O_within C (pc := 16) hS (c_O_within _ _ _ _ _ _ (by omega) (by omega) (by omega)) k_227 (by decide) (Nat.le_of_ble_eq_true rfl) rfl d_O_beam_16 (kkI (fun r16 N16 h16 => ?_))
    obtain ⟨rfl, rfl⟩ := h16
    refine r_ifeqB C (pc := 19) (tgt := 43) d_O_beam_19 (by decide) (fun c19 => ?_) (fun c19 => ?_)
    · refine r_ldc C (pc := 43) (z := (-900002)) k_231 rfl d_O_beam_43 ?_
      exact r_iret C (pc := 45) hQ (⟨by unfold fBeam; rw [if_neg (by omega), if_pos (by omega)], by unfold gBeam; rw [if_neg (by omega)]; exact hR⟩) d_O_beam_45
    · refine r_ild3 C (pc := 22) d_O_beam_22 ?_
      refine r_iconst C (pc := 23) d_O_beam_23 ?_
      refine r_bipush C (pc := 24) (n := 40) rfl d_O_beam_24 ?_
      refine call_O_within C (pc := 26) hS (c_O_within _ _ _ _ _ _ (by omega) (by omega) (by omega)) k_227 (by decide) (Nat.le_of_ble_eq_true rfl) rfl d_O_beam_26 (kkI (fun r26 N26 h26 => ?_))
      obtain ⟨rfl, rfl⟩ := h26
      refine r_ifeqB C (pc := 29) (tgt := 43) d_O_beam_29 (by decide) (fun c29 => ?_) (fun c29 => ?_)
      · refine r_ldc C (pc := 43) (z := (-900002)) k_231 rfl d_O_beam_43 ?_
        exact r_iret C (pc := 45) hQ (⟨by unfold fBeam; rw [if_neg (by omega), if_pos (by omega)], by unfold gBeam; rw [if_neg (by omega)]; exact hR⟩) d_O_beam_45
      · refine r_ild4 C (pc := 32) d_O_beam_32 ?_
        refine r_iconst C (pc := 34) d_O_beam_34 ?_
        refine r_bipush C (pc := 35) (n := 40) rfl d_O_beam_35 ?_
        refine call_O_within C (pc := 37) hS (c_O_within _ _ _ _ _ _ (by omega) (by omega) (by omega)) k_227 (by decide) (Nat.le_of_ble_eq_true rfl) rfl d_O_beam_37 (kkI (fun r37 N37 h37 => ?_))
        obtain ⟨rfl, rfl⟩ := h37
        refine r_ifneB C (pc := 40) (tgt := 46) d_O_beam_40 (by decide) (fun c40 => ?_) (fun c40 => ?_)
        · refine r_ild5 C (pc := 46) d_O_beam_46 ?_
          refine call_O_isYear C (pc := 48) hS (c_O_isYear _ _ _ _ (by omega)) k_236 (by decide) (Nat.le_of_ble_eq_true rfl) rfl d_O_beam_48 (kkI (fun r48 N48 h48 => ?_))
          obtain ⟨rfl, rfl⟩ := h48
          refine r_ifneB C (pc := 51) (tgt := 57) d_O_beam_51 (by decide) (fun c51 => ?_) (fun c51 => ?_)
          · refine r_ald0 C (pc := 57) d_O_beam_57 ?_
            refine gX_O_frame C (pc := 58) hS k_201 d_O_beam_58 ?_
            refine gX_F_beamCount C (pc := 61) hS k_98 d_O_beam_61 ?_
            rw [hbn]
            refine r_bipush C (pc := 64) (n := 12) rfl d_O_beam_64 ?_
            refine r_icmp_lt C (pc := 66) (tgt := 72) (by omega) (by omega) d_O_beam_66 (by decide) (fun c66 => ?_) (fun c66 => ?_)
            · refine r_ald0 C (pc := 72) d_O_beam_72 ?_
              refine gX_O_frame C (pc := 73) hS k_201 d_O_beam_73 ?_
              refine r_ild1 C (pc := 76) d_O_beam_76 ?_
              refine r_ild2 C (pc := 77) d_O_beam_77 ?_
              refine r_ild3 C (pc := 78) d_O_beam_78 ?_
              refine r_ild4 C (pc := 79) d_O_beam_79 ?_
              refine call_F_addBeam C (pc := 81) hS (c_F_addBeam _ _ M (S.1 0) (by omega) hbn k l9 w h) k_240 (by decide) (Nat.le_of_ble_eq_true rfl) rfl d_O_beam_81 (kkI (fun r81 N81 h81 => ?_))
              obtain ⟨rfl, h81⟩ := h81
              exact r_iret C (pc := 84) hQ (⟨by unfold fBeam; rw [if_neg (by omega), if_neg (by omega), if_neg (by omega)], by unfold gBeam; rw [if_pos (by omega), ← h81]; exact RX_beam hR hO (by omega)⟩) d_O_beam_84
            · refine r_ldc C (pc := 69) (z := (-900004)) k_239 rfl d_O_beam_69 ?_
              exact r_iret C (pc := 71) hQ (⟨by unfold fBeam; rw [if_neg (by omega), if_neg (by omega), if_pos (by omega)], by unfold gBeam; rw [if_neg (by omega)]; exact hR⟩) d_O_beam_71
          · refine r_ldc C (pc := 54) (z := (-900002)) k_231 rfl d_O_beam_54 ?_
            exact r_iret C (pc := 56) hQ (⟨by unfold fBeam; rw [if_neg (by omega), if_pos (by omega)], by unfold gBeam; rw [if_neg (by omega)]; exact hR⟩) d_O_beam_56
        · refine r_ldc C (pc := 43) (z := (-900002)) k_231 rfl d_O_beam_43 ?_
          exact r_iret C (pc := 45) hQ (⟨by unfold fBeam; rw [if_neg (by omega), if_pos (by omega)], by unfold gBeam; rw [if_neg (by omega)]; exact hR⟩) d_O_beam_45
  · refine r_ldc C (pc := 9) (z := (-900001)) k_230 rfl d_O_beam_9 ?_
    exact r_iret C (pc := 11) hQ (⟨by unfold fBeam; rw [if_pos (by omega)], by unfold gBeam; rw [if_neg (by omega)]; exact hR⟩) d_O_beam_11
set_option maxRecDepth 20000 in
theorem c_O_seat (l : Launch) (E : zE) (M : zM) (S : zS) (hR : RX S M) (hO : ok S) (b s p n w : Int) (hb : -2147483648 ≤ b ∧ b < 2147483648) (hs : -2147483648 ≤ s ∧ s < 2147483648) (hp : -2147483648 ≤ p ∧ p < 2147483648) (hn : -2147483648 ≤ n ∧ n < 2147483648) (hw : -2147483648 ≤ w ∧ w < 2147483648) : zK l sX E y_O_seat b_O_seat 8 (some .int) 3 65 [.ref (E.2.2 0), .int (iI b), .int (iI s), .int (iI p), .int (iI n), .int (iI w)] M (zPi (fun r M2 => r = fSeat S b s p n w ∧ RX (gSeat S b s p n w) M2)) := by
  refine zK.of "OldBeams" rfl (by decide) (Nat.le_of_ble_eq_true rfl) ?_
  intro G hS hE hQ hL C
  subst hE
  subst hL
  show VJ G M 0 [some (.ref (G.2.1.2.2 0)), some (.int (iI b)), some (.int (iI s)), some (.int (iI p)), some (.int (iI n)), some (.int (iI w)), none, none] []
  have h12 := hO.n
  have hbn := hR.n
  refine r_ald0 C (pc := 0) d_O_seat_0 ?_
  refine gX_O_frame C (pc := 1) hS k_201 d_O_seat_1 ?_
  refine r_ild1 C (pc := 4) d_O_seat_4 ?_
  refine call_F_hasBeam C (pc := 5) hS (c_F_hasBeam _ _ M b (by omega) (by omega)) k_257 (by decide) (Nat.le_of_ble_eq_true rfl) rfl d_O_seat_5 (kkI (fun r5 N5 h5 => ?_))
  obtain ⟨rfl, rfl⟩ := h5
  rw [hbn]
  refine r_ifneB C (pc := 8) (tgt := 14) d_O_seat_8 (by decide) (fun c8 => ?_) (fun c8 => ?_)
  · obtain ⟨b, rfl⟩ := Int.eq_ofNat_of_zero_le c8.1
    have hb : b < S.1 0 := by omega
    have hbo := hO.2.2.1 b hb
    obtain ⟨-, hl6, -, -, hpl0, hpl1, -⟩ := hbo
    obtain ⟨⟨-, e1, -⟩, hrs⟩ := hR.2.2.1 b hb
    have hq0 := (hrs 0 (by omega)).1
    have hq1 := (hrs 1 (by omega)).1
    refine r_ild2 C (pc := 14) d_O_seat_14 ?_
    refine r_iconst C (pc := 15) d_O_seat_15 ?_
    refine r_iconst C (pc := 16) d_O_seat_16 ?_
    refine call_O_within C (pc := 17) hS (c_O_within _ _ _ _ _ _ (by omega) (by omega) (by omega)) k_227 (by decide) (Nat.le_of_ble_eq_true rfl) rfl d_O_seat_17 (kkI (fun r17 N17 h17 => ?_))
    obtain ⟨rfl, rfl⟩ := h17
    refine r_ifeqB C (pc := 20) (tgt := 35) d_O_seat_20 (by decide) (fun c20 => ?_) (fun c20 => ?_)
    · refine r_ldc C (pc := 35) (z := (-900002)) k_231 rfl d_O_seat_35 ?_
      exact r_iret C (pc := 37) hQ (⟨by unfold fSeat; simp only [Int.toNat_natCast]; rw [if_neg (by omega), if_pos (by omega)], by unfold gSeat; simp only [Int.toNat_natCast]; rw [if_neg (by omega)]; exact hR⟩) d_O_seat_37
    · obtain ⟨s, rfl⟩ := Int.eq_ofNat_of_zero_le c20.1
      refine r_ald0 C (pc := 23) d_O_seat_23 ?_
      refine gX_O_frame C (pc := 24) hS k_201 d_O_seat_24 ?_
      refine r_ild1 C (pc := 27) d_O_seat_27 ?_
      refine r_ild3 C (pc := 28) d_O_seat_28 ?_
      refine call_F_hasPlace C (pc := 29) hS (c_F_hasPlace _ _ M S hR hO (b : Int) p (by omega) (by omega)) k_262 (by decide) (Nat.le_of_ble_eq_true rfl) rfl d_O_seat_29 (kkI (fun r29 N29 h29 => ?_))
      obtain ⟨rfl, rfl⟩ := h29
      refine r_ifneB C (pc := 32) (tgt := 38) d_O_seat_32 (by decide) (fun c32 => ?_) (fun c32 => ?_)
      · rw [Int.toNat_natCast] at c32
        refine r_ild4 C (pc := 38) d_O_seat_38 ?_
        refine r_ldc C (pc := 40) (z := (-900009)) k_267 rfl d_O_seat_40 ?_
        refine r_icmp_eq C (pc := 42) (tgt := 77) (by omega) (by omega) d_O_seat_42 (by decide) (fun c42 => ?_) (fun c42 => ?_)
        · refine r_ald0 C (pc := 77) d_O_seat_77 ?_
          refine gX_O_frame C (pc := 78) hS k_201 d_O_seat_78 ?_
          refine gX_F_beams C (pc := 81) hS k_96 d_O_seat_81 ?_
          refine r_ild1 C (pc := 84) d_O_seat_84 ?_
          refine X_beamsN C (pc := 85) hS (b) (by omega) (by omega) d_O_seat_85 ?_
          refine r_ast6 C (pc := 86) rfl d_O_seat_86 ?_
          refine r_ald6 C (pc := 88) d_O_seat_88 ?_
          refine r_ild2 C (pc := 90) d_O_seat_90 ?_
          refine r_ild3 C (pc := 91) d_O_seat_91 ?_
          refine call_B_mayPutSeat C (pc := 92) hS (by omega) (c_B_mayPutSeat _ _ M b (by omega) _ p (by omega) (by omega) (by omega) (by omega) (by omega)) k_269 (by decide) (Nat.le_of_ble_eq_true rfl) rfl d_O_seat_92 (kkI (fun r92 N92 h92 => ?_))
          obtain ⟨rfl, rfl⟩ := h92
          rw [e1, hq0, hq1, show (if (s : Int) = 0 then S.2 3 b 1 else p) - (if (s : Int) = 0 then p else S.2 3 b 0) = sAp S (b : Int) (s : Int) p from rfl]
          refine r_ifneB C (pc := 95) (tgt := 101) d_O_seat_95 (by decide) (fun c95 => ?_) (fun c95 => ?_)
          · refine r_ald6 C (pc := 101) d_O_seat_101 ?_
            refine gX_B_place C (pc := 103) hS (by omega) k_45 d_O_seat_103 ?_
            refine r_ild2 C (pc := 106) d_O_seat_106 ?_
            refine X_ialdN C (pc := 107) hS (s) (by omega) (shB1 _) (by omega) (by omega) (by decide) d_O_seat_107 ?_
            rw [(hrs s (by omega)).1]
            refine r_ist7 C (pc := 108) rfl d_O_seat_108 ?_
            refine r_ald6 C (pc := 110) d_O_seat_110 ?_
            refine r_ild2 C (pc := 112) d_O_seat_112 ?_
            refine r_ild3 C (pc := 113) d_O_seat_113 ?_
            refine r_ild4 C (pc := 114) d_O_seat_114 ?_
            refine r_ild5 C (pc := 116) d_O_seat_116 ?_
            refine call_B_putSeat C (pc := 118) hS (by omega) (c_B_putSeat _ _ M b (by omega) s (by omega) p n w (by omega)) k_273 (by decide) (Nat.le_of_ble_eq_true rfl) rfl d_O_seat_118 (kkV (fun N118 h118 => ?_))
            subst h118
            refine r_ild7 C (pc := 121) d_O_seat_121 ?_
            exact r_iret C (pc := 123) hQ (⟨by unfold fSeat; simp only [Int.toNat_natCast]; rw [if_neg (by omega), if_neg (by omega), if_neg (by omega), if_neg (by omega), if_neg (by omega)], by unfold gSeat aSeat; simp only [Int.toNat_natCast]; rw [if_pos (by omega)]; exact RX_seat hR hO hb (by omega)⟩) d_O_seat_123
          · refine r_ldc C (pc := 98) (z := (-900003)) k_268 rfl d_O_seat_98 ?_
            exact r_iret C (pc := 100) hQ (⟨by unfold fSeat; simp only [Int.toNat_natCast]; rw [if_neg (by omega), if_neg (by omega), if_neg (by omega), if_neg (by omega), if_pos (by omega)], by unfold gSeat; simp only [Int.toNat_natCast]; rw [if_neg (by omega)]; exact hR⟩) d_O_seat_100
        · refine r_ild4 C (pc := 45) d_O_seat_45 ?_
          refine r_iconst C (pc := 47) d_O_seat_47 ?_
          refine r_ild1 C (pc := 48) d_O_seat_48 ?_
          refine r_iconst C (pc := 49) d_O_seat_49 ?_
          refine r_isub C (pc := 50) d_O_seat_50 ?_
          refine call_O_within C (pc := 51) hS (c_O_within _ _ _ _ _ _ (by omega) (by omega) (by omega)) k_227 (by decide) (Nat.le_of_ble_eq_true rfl) rfl d_O_seat_51 (kkI (fun r51 N51 h51 => ?_))
          obtain ⟨rfl, rfl⟩ := h51
          refine r_ifneB C (pc := 54) (tgt := 60) d_O_seat_54 (by decide) (fun c54 => ?_) (fun c54 => ?_)
          · refine r_ald0 C (pc := 60) d_O_seat_60 ?_
            refine gX_O_frame C (pc := 61) hS k_201 d_O_seat_61 ?_
            refine r_ild4 C (pc := 64) d_O_seat_64 ?_
            refine r_ild5 C (pc := 66) d_O_seat_66 ?_
            refine call_F_hasPlace C (pc := 68) hS (c_F_hasPlace _ _ M S hR hO n w (by omega) (by omega)) k_262 (by decide) (Nat.le_of_ble_eq_true rfl) rfl d_O_seat_68 (kkI (fun r68 N68 h68 => ?_))
            obtain ⟨rfl, rfl⟩ := h68
            refine r_ifneB C (pc := 71) (tgt := 77) d_O_seat_71 (by decide) (fun c71 => ?_) (fun c71 => ?_)
            · refine r_ald0 C (pc := 77) d_O_seat_77 ?_
              refine gX_O_frame C (pc := 78) hS k_201 d_O_seat_78 ?_
              refine gX_F_beams C (pc := 81) hS k_96 d_O_seat_81 ?_
              refine r_ild1 C (pc := 84) d_O_seat_84 ?_
              refine X_beamsN C (pc := 85) hS (b) (by omega) (by omega) d_O_seat_85 ?_
              refine r_ast6 C (pc := 86) rfl d_O_seat_86 ?_
              refine r_ald6 C (pc := 88) d_O_seat_88 ?_
              refine r_ild2 C (pc := 90) d_O_seat_90 ?_
              refine r_ild3 C (pc := 91) d_O_seat_91 ?_
              refine call_B_mayPutSeat C (pc := 92) hS (by omega) (c_B_mayPutSeat _ _ M b (by omega) _ p (by omega) (by omega) (by omega) (by omega) (by omega)) k_269 (by decide) (Nat.le_of_ble_eq_true rfl) rfl d_O_seat_92 (kkI (fun r92 N92 h92 => ?_))
              obtain ⟨rfl, rfl⟩ := h92
              rw [e1, hq0, hq1, show (if (s : Int) = 0 then S.2 3 b 1 else p) - (if (s : Int) = 0 then p else S.2 3 b 0) = sAp S (b : Int) (s : Int) p from rfl]
              refine r_ifneB C (pc := 95) (tgt := 101) d_O_seat_95 (by decide) (fun c95 => ?_) (fun c95 => ?_)
              · refine r_ald6 C (pc := 101) d_O_seat_101 ?_
                refine gX_B_place C (pc := 103) hS (by omega) k_45 d_O_seat_103 ?_
                refine r_ild2 C (pc := 106) d_O_seat_106 ?_
                refine X_ialdN C (pc := 107) hS (s) (by omega) (shB1 _) (by omega) (by omega) (by decide) d_O_seat_107 ?_
                rw [(hrs s (by omega)).1]
                refine r_ist7 C (pc := 108) rfl d_O_seat_108 ?_
                refine r_ald6 C (pc := 110) d_O_seat_110 ?_
                refine r_ild2 C (pc := 112) d_O_seat_112 ?_
                refine r_ild3 C (pc := 113) d_O_seat_113 ?_
                refine r_ild4 C (pc := 114) d_O_seat_114 ?_
                refine r_ild5 C (pc := 116) d_O_seat_116 ?_
                refine call_B_putSeat C (pc := 118) hS (by omega) (c_B_putSeat _ _ M b (by omega) s (by omega) p n w (by omega)) k_273 (by decide) (Nat.le_of_ble_eq_true rfl) rfl d_O_seat_118 (kkV (fun N118 h118 => ?_))
                subst h118
                refine r_ild7 C (pc := 121) d_O_seat_121 ?_
                exact r_iret C (pc := 123) hQ (⟨by unfold fSeat; simp only [Int.toNat_natCast]; rw [if_neg (by omega), if_neg (by omega), if_neg (by omega), if_neg (by omega), if_neg (by omega)], by unfold gSeat aSeat; simp only [Int.toNat_natCast]; rw [if_pos (by omega)]; exact RX_seat hR hO hb (by omega)⟩) d_O_seat_123
              · refine r_ldc C (pc := 98) (z := (-900003)) k_268 rfl d_O_seat_98 ?_
                exact r_iret C (pc := 100) hQ (⟨by unfold fSeat; simp only [Int.toNat_natCast]; rw [if_neg (by omega), if_neg (by omega), if_neg (by omega), if_neg (by omega), if_pos (by omega)], by unfold gSeat; simp only [Int.toNat_natCast]; rw [if_neg (by omega)]; exact hR⟩) d_O_seat_100
            · refine r_ldc C (pc := 74) (z := (-900002)) k_231 rfl d_O_seat_74 ?_
              exact r_iret C (pc := 76) hQ (⟨by unfold fSeat; simp only [Int.toNat_natCast]; rw [if_neg (by omega), if_neg (by omega), if_neg (by omega), if_pos (by omega)], by unfold gSeat; simp only [Int.toNat_natCast]; rw [if_neg (by omega)]; exact hR⟩) d_O_seat_76
          · refine r_ldc C (pc := 57) (z := (-900003)) k_268 rfl d_O_seat_57 ?_
            exact r_iret C (pc := 59) hQ (⟨by unfold fSeat; simp only [Int.toNat_natCast]; rw [if_neg (by omega), if_neg (by omega), if_pos (by omega)], by unfold gSeat; simp only [Int.toNat_natCast]; rw [if_neg (by omega)]; exact hR⟩) d_O_seat_59
      · rw [Int.toNat_natCast] at c32
        refine r_ldc C (pc := 35) (z := (-900002)) k_231 rfl d_O_seat_35 ?_
        exact r_iret C (pc := 37) hQ (⟨by unfold fSeat; simp only [Int.toNat_natCast]; rw [if_neg (by omega), if_pos (by omega)], by unfold gSeat; simp only [Int.toNat_natCast]; rw [if_neg (by omega)]; exact hR⟩) d_O_seat_37
  · refine r_ldc C (pc := 11) (z := (-900001)) k_230 rfl d_O_seat_11 ?_
    exact r_iret C (pc := 13) hQ (⟨by unfold fSeat; rw [if_pos (by omega)], by unfold gSeat; rw [if_neg (by omega)]; exact hR⟩) d_O_seat_13
set_option maxRecDepth 20000 in
theorem c_O_wet (l : Launch) (E : zE) (M : zM) (S : zS) (hR : RX S M) (hO : ok S) (b z : Int) (hb : -2147483648 ≤ b ∧ b < 2147483648) (hz : z = 0 ∨ z = 1) : zK l sX E y_O_wet b_O_wet 5 (some .int) 2 43 [.ref (E.2.2 0), .int (iI b), .int (iI z)] M (zPi (fun r M2 => r = fWet S b ∧ RX (gWet S b z) M2)) := by
  refine zK.of "OldBeams" rfl (by decide) (Nat.le_of_ble_eq_true rfl) ?_
  intro G hS hE hQ hL C
  subst hE
  subst hL
  show VJ G M 0 [some (.ref (G.2.1.2.2 0)), some (.int (iI b)), some (.int (iI z)), none, none] []
  have h12 := hO.n
  have hbn := hR.n
  refine r_ald0 C (pc := 0) d_O_wet_0 ?_
  refine gX_O_frame C (pc := 1) hS k_201 d_O_wet_1 ?_
  refine r_ild1 C (pc := 4) d_O_wet_4 ?_
  refine call_F_hasBeam C (pc := 5) hS (c_F_hasBeam _ _ M b (by omega) (by omega)) k_257 (by decide) (Nat.le_of_ble_eq_true rfl) rfl d_O_wet_5 (kkI (fun r5 N5 h5 => ?_))
  obtain ⟨rfl, rfl⟩ := h5
  rw [hbn]
  refine r_ifneB C (pc := 8) (tgt := 14) d_O_wet_8 (by decide) (fun c8 => ?_) (fun c8 => ?_)
  · obtain ⟨b, rfl⟩ := Int.eq_ofNat_of_zero_le c8.1
    have hb : b < S.1 0 := by omega
    have hwt := (hR.2.2.2.1 b (by omega)).1
    have hwo := (hO.2.2.2.1 b (by omega)).1
    refine r_ald0 C (pc := 14) d_O_wet_14 ?_
    refine gX_O_frame C (pc := 15) hS k_201 d_O_wet_15 ?_
    refine gX_F_beams C (pc := 18) hS k_96 d_O_wet_18 ?_
    refine r_ild1 C (pc := 21) d_O_wet_21 ?_
    refine X_beamsN C (pc := 22) hS (b) (by omega) (by omega) d_O_wet_22 ?_
    refine r_ast3 C (pc := 23) rfl d_O_wet_23 ?_
    refine r_ald3 C (pc := 24) d_O_wet_24 ?_
    refine gX_B_isWet C (pc := 25) hS (by omega) k_42 d_O_wet_25 ?_
    refine call_O_asNumber C (pc := 28) hS (c_O_asNumber _ _ _ _ (by rw [hwt]; exact hwo)) k_282 (by decide) (Nat.le_of_ble_eq_true rfl) rfl d_O_wet_28 (kkI (fun r28 N28 h28 => ?_))
    obtain ⟨rfl, rfl⟩ := h28
    rw [hwt]
    refine r_ist4 C (pc := 31) rfl d_O_wet_31 ?_
    refine r_ald3 C (pc := 33) d_O_wet_33 ?_
    refine r_ild2 C (pc := 34) d_O_wet_34 ?_
    refine pX_B_isWet C (pc := 35) hS (by omega) (by first | exact Or.inl rfl | exact Or.inr rfl | exact zb_01 _ | assumption) k_42 d_O_wet_35 ?_
    refine r_ild4 C (pc := 38) d_O_wet_38 ?_
    exact r_iret C (pc := 40) hQ (⟨by unfold fWet; rw [if_neg (by omega), Int.toNat_natCast], by unfold gWet; rw [if_pos (by omega), Int.toNat_natCast]; exact RX_wet hR hO (by omega)⟩) d_O_wet_40
  · refine r_ldc C (pc := 11) (z := (-900001)) k_230 rfl d_O_wet_11 ?_
    exact r_iret C (pc := 13) hQ (⟨by unfold fWet; rw [if_pos (by omega)], by unfold gWet; rw [if_neg (by omega)]; exact hR⟩) d_O_wet_13
set_option maxRecDepth 20000 in
theorem c_O_load (l : Launch) (E : zE) (M : zM) (S : zS) (hR : RX S M) (hO : ok S) (b p w : Int) (hb : -2147483648 ≤ b ∧ b < 2147483648) (hp : -2147483648 ≤ p ∧ p < 2147483648) (hw : -2147483648 ≤ w ∧ w < 2147483648) : zK l sX E y_O_load b_O_load 4 (some .int) 3 65 [.ref (E.2.2 0), .int (iI b), .int (iI p), .int (iI w)] M (zPi (fun r M2 => r = fLoad S b p w ∧ RX (gLoad S b p w) M2)) := by
  refine zK.of "OldBeams" rfl (by decide) (Nat.le_of_ble_eq_true rfl) ?_
  intro G hS hE hQ hL C
  subst hE
  subst hL
  show VJ G M 0 [some (.ref (G.2.1.2.2 0)), some (.int (iI b)), some (.int (iI p)), some (.int (iI w))] []
  have h12 := hO.n
  have hbn := hR.n
  have hcap := hO.1
  refine r_ald0 C (pc := 0) d_O_load_0 ?_
  refine gX_O_frame C (pc := 1) hS k_201 d_O_load_1 ?_
  refine r_ild1 C (pc := 4) d_O_load_4 ?_
  refine call_F_hasBeam C (pc := 5) hS (c_F_hasBeam _ _ M b (by omega) (by omega)) k_257 (by decide) (Nat.le_of_ble_eq_true rfl) rfl d_O_load_5 (kkI (fun r5 N5 h5 => ?_))
  obtain ⟨rfl, rfl⟩ := h5
  rw [hbn]
  refine r_ifneB C (pc := 8) (tgt := 14) d_O_load_8 (by decide) (fun c8 => ?_) (fun c8 => ?_)
  · obtain ⟨b, rfl⟩ := Int.eq_ofNat_of_zero_le c8.1
    have hb : b < S.1 0 := by omega
    have hl6 := (hO.2.2.1 b hb).2.1
    refine r_ald0 C (pc := 14) d_O_load_14 ?_
    refine gX_O_frame C (pc := 15) hS k_201 d_O_load_15 ?_
    refine r_ild1 C (pc := 18) d_O_load_18 ?_
    refine r_ild2 C (pc := 19) d_O_load_19 ?_
    refine call_F_hasPlace C (pc := 20) hS (c_F_hasPlace _ _ M S hR hO (b : Int) p (by omega) (by omega)) k_262 (by decide) (Nat.le_of_ble_eq_true rfl) rfl d_O_load_20 (kkI (fun r20 N20 h20 => ?_))
    obtain ⟨rfl, rfl⟩ := h20
    refine r_ifeqB C (pc := 23) (tgt := 37) d_O_load_23 (by decide) (fun c23 => ?_) (fun c23 => ?_)
    · rw [Int.toNat_natCast] at c23
      refine r_ldc C (pc := 37) (z := (-900002)) k_231 rfl d_O_load_37 ?_
      exact r_iret C (pc := 39) hQ (⟨by unfold fLoad; rw [if_neg (by omega), Int.toNat_natCast, if_pos (by omega)], by unfold gLoad; rw [Int.toNat_natCast, if_neg (by omega)]; exact hR⟩) d_O_load_39
    · rw [Int.toNat_natCast] at c23
      obtain ⟨p, rfl⟩ := Int.eq_ofNat_of_zero_le c23.2.1
      refine r_ild3 C (pc := 26) d_O_load_26 ?_
      refine r_iconst C (pc := 27) d_O_load_27 ?_
      refine r_sipush C (pc := 28) (n := 9999) rfl d_O_load_28 ?_
      refine call_O_within C (pc := 31) hS (c_O_within _ _ _ _ _ _ (by omega) (by omega) (by omega)) k_227 (by decide) (Nat.le_of_ble_eq_true rfl) rfl d_O_load_31 (kkI (fun r31 N31 h31 => ?_))
      obtain ⟨rfl, rfl⟩ := h31
      refine r_ifneB C (pc := 34) (tgt := 40) d_O_load_34 (by decide) (fun c34 => ?_) (fun c34 => ?_)
      · refine r_ald0 C (pc := 40) d_O_load_40 ?_
        refine gX_O_frame C (pc := 41) hS k_201 d_O_load_41 ?_
        refine gX_F_loadCount C (pc := 44) hS k_108 d_O_load_44 ?_
        rw [hR.1.2.1]
        refine r_bipush C (pc := 47) (n := 40) rfl d_O_load_47 ?_
        refine r_icmp_lt C (pc := 49) (tgt := 55) (by omega) (by omega) d_O_load_49 (by decide) (fun c49 => ?_) (fun c49 => ?_)
        · refine r_ald0 C (pc := 55) d_O_load_55 ?_
          refine gX_O_frame C (pc := 56) hS k_201 d_O_load_56 ?_
          refine r_ild1 C (pc := 59) d_O_load_59 ?_
          refine r_ild2 C (pc := 60) d_O_load_60 ?_
          refine r_ild3 C (pc := 61) d_O_load_61 ?_
          refine call_F_addLoad C (pc := 62) hS (c_F_addLoad _ _ M (S.1 1) (by omega) hR.1.2.1 b p (by omega) (by omega) w (by omega)) k_308 (by decide) (Nat.le_of_ble_eq_true rfl) rfl d_O_load_62 (kkI (fun r62 N62 h62 => ?_))
          obtain ⟨rfl, h62⟩ := h62
          exact r_iret C (pc := 65) hQ (⟨by unfold fLoad; rw [if_neg (by omega), Int.toNat_natCast, if_neg (by omega), if_neg (by omega)], by unfold gLoad; rw [Int.toNat_natCast, if_pos (by omega), ← h62]; exact RX_load hR hO (by omega) (by omega) (by omega)⟩) d_O_load_65
        · refine r_ldc C (pc := 52) (z := (-900004)) k_239 rfl d_O_load_52 ?_
          exact r_iret C (pc := 54) hQ (⟨by unfold fLoad; rw [if_neg (by omega), Int.toNat_natCast, if_neg (by omega), if_pos (by omega)], by unfold gLoad; rw [Int.toNat_natCast, if_neg (by omega)]; exact hR⟩) d_O_load_54
      · refine r_ldc C (pc := 37) (z := (-900002)) k_231 rfl d_O_load_37 ?_
        exact r_iret C (pc := 39) hQ (⟨by unfold fLoad; rw [if_neg (by omega), Int.toNat_natCast, if_pos (by omega)], by unfold gLoad; rw [Int.toNat_natCast, if_neg (by omega)]; exact hR⟩) d_O_load_39
  · refine r_ldc C (pc := 11) (z := (-900001)) k_230 rfl d_O_load_11 ?_
    exact r_iret C (pc := 13) hQ (⟨by unfold fLoad; rw [if_pos (by omega)], by unfold gLoad; rw [if_neg (by omega)]; exact hR⟩) d_O_load_13
set_option maxRecDepth 20000 in
theorem c_O_prop (l : Launch) (E : zE) (M : zM) (S : zS) (hR : RX S M) (hO : ok S) (b p w : Int) (hb : -2147483648 ≤ b ∧ b < 2147483648) (hp : -2147483648 ≤ p ∧ p < 2147483648) (hw : -2147483648 ≤ w ∧ w < 2147483648) : zK l sX E y_O_prop b_O_prop 4 (some .int) 3 65 [.ref (E.2.2 0), .int (iI b), .int (iI p), .int (iI w)] M (zPi (fun r M2 => r = fProp S b p w ∧ RX (gProp S b p w) M2)) := by
  refine zK.of "OldBeams" rfl (by decide) (Nat.le_of_ble_eq_true rfl) ?_
  intro G hS hE hQ hL C
  subst hE
  subst hL
  show VJ G M 0 [some (.ref (G.2.1.2.2 0)), some (.int (iI b)), some (.int (iI p)), some (.int (iI w))] []
  have h12 := hO.n
  have hbn := hR.n
  have hcap := hO.1
  refine r_ald0 C (pc := 0) d_O_prop_0 ?_
  refine gX_O_frame C (pc := 1) hS k_201 d_O_prop_1 ?_
  refine r_ild1 C (pc := 4) d_O_prop_4 ?_
  refine call_F_hasBeam C (pc := 5) hS (c_F_hasBeam _ _ M b (by omega) (by omega)) k_257 (by decide) (Nat.le_of_ble_eq_true rfl) rfl d_O_prop_5 (kkI (fun r5 N5 h5 => ?_))
  obtain ⟨rfl, rfl⟩ := h5
  rw [hbn]
  refine r_ifneB C (pc := 8) (tgt := 14) d_O_prop_8 (by decide) (fun c8 => ?_) (fun c8 => ?_)
  · obtain ⟨b, rfl⟩ := Int.eq_ofNat_of_zero_le c8.1
    have hb : b < S.1 0 := by omega
    have hl6 := (hO.2.2.1 b hb).2.1
    refine r_ald0 C (pc := 14) d_O_prop_14 ?_
    refine gX_O_frame C (pc := 15) hS k_201 d_O_prop_15 ?_
    refine r_ild1 C (pc := 18) d_O_prop_18 ?_
    refine r_ild2 C (pc := 19) d_O_prop_19 ?_
    refine call_F_hasPlace C (pc := 20) hS (c_F_hasPlace _ _ M S hR hO (b : Int) p (by omega) (by omega)) k_262 (by decide) (Nat.le_of_ble_eq_true rfl) rfl d_O_prop_20 (kkI (fun r20 N20 h20 => ?_))
    obtain ⟨rfl, rfl⟩ := h20
    refine r_ifeqB C (pc := 23) (tgt := 37) d_O_prop_23 (by decide) (fun c23 => ?_) (fun c23 => ?_)
    · rw [Int.toNat_natCast] at c23
      refine r_ldc C (pc := 37) (z := (-900002)) k_231 rfl d_O_prop_37 ?_
      exact r_iret C (pc := 39) hQ (⟨by unfold fProp; rw [if_neg (by omega), Int.toNat_natCast, if_pos (by omega)], by unfold gProp; rw [Int.toNat_natCast, if_neg (by omega)]; exact hR⟩) d_O_prop_39
    · rw [Int.toNat_natCast] at c23
      obtain ⟨p, rfl⟩ := Int.eq_ofNat_of_zero_le c23.2.1
      refine r_ild3 C (pc := 26) d_O_prop_26 ?_
      refine r_iconst C (pc := 27) d_O_prop_27 ?_
      refine r_sipush C (pc := 28) (n := 9999) rfl d_O_prop_28 ?_
      refine call_O_within C (pc := 31) hS (c_O_within _ _ _ _ _ _ (by omega) (by omega) (by omega)) k_227 (by decide) (Nat.le_of_ble_eq_true rfl) rfl d_O_prop_31 (kkI (fun r31 N31 h31 => ?_))
      obtain ⟨rfl, rfl⟩ := h31
      refine r_ifneB C (pc := 34) (tgt := 40) d_O_prop_34 (by decide) (fun c34 => ?_) (fun c34 => ?_)
      · refine r_ald0 C (pc := 40) d_O_prop_40 ?_
        refine gX_O_frame C (pc := 41) hS k_201 d_O_prop_41 ?_
        refine gX_F_propCount C (pc := 44) hS k_113 d_O_prop_44 ?_
        rw [hR.1.2.2.2]
        refine r_bipush C (pc := 47) (n := 8) rfl d_O_prop_47 ?_
        refine r_icmp_lt C (pc := 49) (tgt := 55) (by omega) (by omega) d_O_prop_49 (by decide) (fun c49 => ?_) (fun c49 => ?_)
        · refine r_ald0 C (pc := 55) d_O_prop_55 ?_
          refine gX_O_frame C (pc := 56) hS k_201 d_O_prop_56 ?_
          refine r_ild1 C (pc := 59) d_O_prop_59 ?_
          refine r_ild2 C (pc := 60) d_O_prop_60 ?_
          refine r_ild3 C (pc := 61) d_O_prop_61 ?_
          refine call_F_addProp C (pc := 62) hS (c_F_addProp _ _ M (S.1 3) (by omega) hR.1.2.2.2 (b : Int) (p : Int) w) k_564 (by decide) (Nat.le_of_ble_eq_true rfl) rfl d_O_prop_62 (kkI (fun r62 N62 h62 => ?_))
          obtain ⟨rfl, h62⟩ := h62
          exact r_iret C (pc := 65) hQ (⟨by unfold fProp; rw [if_neg (by omega), Int.toNat_natCast, if_neg (by omega), if_neg (by omega)], by unfold gProp; rw [Int.toNat_natCast, if_pos (by omega), ← h62]; exact RX_prop hR hO (by omega)⟩) d_O_prop_65
        · refine r_ldc C (pc := 52) (z := (-900004)) k_239 rfl d_O_prop_52 ?_
          exact r_iret C (pc := 54) hQ (⟨by unfold fProp; rw [if_neg (by omega), Int.toNat_natCast, if_neg (by omega), if_pos (by omega)], by unfold gProp; rw [Int.toNat_natCast, if_neg (by omega)]; exact hR⟩) d_O_prop_54
      · refine r_ldc C (pc := 37) (z := (-900002)) k_231 rfl d_O_prop_37 ?_
        exact r_iret C (pc := 39) hQ (⟨by unfold fProp; rw [if_neg (by omega), Int.toNat_natCast, if_pos (by omega)], by unfold gProp; rw [Int.toNat_natCast, if_neg (by omega)]; exact hR⟩) d_O_prop_39
  · refine r_ldc C (pc := 11) (z := (-900001)) k_230 rfl d_O_prop_11 ?_
    exact r_iret C (pc := 13) hQ (⟨by unfold fProp; rw [if_pos (by omega)], by unfold gProp; rw [if_neg (by omega)]; exact hR⟩) d_O_prop_13
set_option maxRecDepth 20000 in
theorem c_O_takeOff (l : Launch) (E : zE) (M : zM) (S : zS) (hR : RX S M) (hO : ok S) (w : Int) (hw : -2147483648 ≤ w ∧ w < 2147483648) : zK l sX E y_O_takeOff b_O_takeOff 2 (some .int) 1 22 [.ref (E.2.2 0), .int (iI w)] M (zPi (fun r M2 => r = fOff S w ∧ RX (gOff S w) M2)) := by
  refine zK.of "OldBeams" rfl (by decide) (Nat.le_of_ble_eq_true rfl) ?_
  intro G hS hE hQ hL C
  subst hE
  subst hL
  show VJ G M 0 [some (.ref (G.2.1.2.2 0)), some (.int (iI w))] []
  have h12 := hO.n
  have hbn := hR.n
  have hcap := hO.1
  refine r_ild1 C (pc := 0) d_O_takeOff_0 ?_
  refine r_iconst C (pc := 1) d_O_takeOff_1 ?_
  refine r_ald0 C (pc := 2) d_O_takeOff_2 ?_
  refine gX_O_frame C (pc := 3) hS k_201 d_O_takeOff_3 ?_
  refine gX_F_loadCount C (pc := 6) hS k_108 d_O_takeOff_6 ?_
  rw [hR.1.2.1]
  refine r_iconst C (pc := 9) d_O_takeOff_9 ?_
  refine r_isub C (pc := 10) d_O_takeOff_10 ?_
  refine call_O_within C (pc := 11) hS (c_O_within _ _ _ _ _ _ (by omega) (by omega) (by omega)) k_227 (by decide) (Nat.le_of_ble_eq_true rfl) rfl d_O_takeOff_11 (kkI (fun r11 N11 h11 => ?_))
  obtain ⟨rfl, rfl⟩ := h11
  refine r_ifneB C (pc := 14) (tgt := 20) d_O_takeOff_14 (by decide) (fun c14 => ?_) (fun c14 => ?_)
  · obtain ⟨w, rfl⟩ := Int.eq_ofNat_of_zero_le c14.1
    have hw : w < S.1 1 := by omega
    have hlo := hO.2.2.2.2.2.1 w hw
    have hlr := hR.2.2.2.2.2.1 w hw
    have hbl := (hO.2.2.1 (S.2 6 w 0).toNat (by omega)).2.1
    refine r_ald0 C (pc := 20) d_O_takeOff_20 ?_
    refine gX_O_frame C (pc := 21) hS k_201 d_O_takeOff_21 ?_
    refine gX_F_loadIsOn C (pc := 24) hS k_106 d_O_takeOff_24 ?_
    refine r_ild1 C (pc := 27) d_O_takeOff_27 ?_
    refine X_baldN C (pc := 28) hS (w) (by omega) rfl (by decide) (by omega) (by decide) d_O_takeOff_28 ?_
    rw [(hR.2.2.2.2.2.1 w (by omega)).2.2.2]
    refine r_if_ne C (pc := 29) (tgt := 35) (by omega) d_O_takeOff_29 (by decide) (fun c29 => ?_) (fun c29 => ?_)
    · refine r_ald0 C (pc := 35) d_O_takeOff_35 ?_
      refine gX_O_frame C (pc := 36) hS k_201 d_O_takeOff_36 ?_
      refine r_ild1 C (pc := 39) d_O_takeOff_39 ?_
      refine call_F_removeLoad C (pc := 40) hS (c_F_removeLoad _ _ M w (by omega) (S.2 6 w 0).toNat (S.2 6 w 1).toNat (by omega) (by omega) (S.2 6 w 2) (by omega) (by rw [hlr.1]; omega) (by rw [hlr.2.1]; omega) hlr.2.2.1) k_316 (by decide) (Nat.le_of_ble_eq_true rfl) rfl d_O_takeOff_40 (kkV (fun N40 h40 => ?_))
      have e16 : N40.1 16 w = S.2 6 w 2 := by rw [← h40, zJ_1, zI_o (by omega)]; exact hlr.2.2.1
      refine r_ald0 C (pc := 43) d_O_takeOff_43 ?_
      refine gX_O_frame C (pc := 44) hS k_201 d_O_takeOff_44 ?_
      refine gX_F_loadWeight C (pc := 47) hS k_104 d_O_takeOff_47 ?_
      refine r_ild1 C (pc := 50) d_O_takeOff_50 ?_
      refine X_ialdN C (pc := 51) hS (w) (by omega) rfl (by decide) (by omega) (by decide) d_O_takeOff_51 ?_
      exact r_iret C (pc := 52) hQ (⟨by unfold fOff; rw [if_neg (by omega), Int.toNat_natCast, if_neg c29]; exact e16, by unfold gOff; rw [Int.toNat_natCast, if_pos (by omega), ← h40]; exact RX_off hR hO hw (by omega) (by omega) rfl (by omega)⟩) d_O_takeOff_52
    · refine r_ldc C (pc := 32) (z := (-900003)) k_268 rfl d_O_takeOff_32 ?_
      exact r_iret C (pc := 34) hQ (⟨by unfold fOff; rw [if_neg (by omega), Int.toNat_natCast, if_pos c29], by unfold gOff; rw [Int.toNat_natCast, if_neg (by omega)]; exact hR⟩) d_O_takeOff_34
  · refine r_ldc C (pc := 17) (z := (-900001)) k_230 rfl d_O_takeOff_17 ?_
    exact r_iret C (pc := 19) hQ (⟨by unfold fOff; rw [if_pos (by omega)], by unfold gOff; rw [if_neg (by omega)]; exact hR⟩) d_O_takeOff_19
theorem fl_up {S : zS} {m b : Nat} (hmb : ∀ i, i < 12 → m.testBit i = flS S i) : ∀ i, i < 12 → (m ||| 2 ^ b).testBit i = flS (uS S 2 b 5 1) i := fun i hi => by
  rw [tb_or, hmb i hi]
  unfold flS
  rw [uS_at]
  by_cases e : i = b
  · rw [if_pos ⟨rfl, e, rfl⟩, decide_eq_true e.symm, Bool.or_true]; rfl
  · rw [if_neg (fun z => e z.2.1), decide_eq_false (show ¬ b = i from fun z => e z.symm), Bool.or_false]
set_option maxRecDepth 20000 in
theorem c_O_fall (l : Launch) (E : zE) (M : zM) (S : zS) (hR : RX S M) (hO : ok S) (b : Int) (hb : -2147483648 ≤ b ∧ b < 2147483648) : zK l sX E y_O_fall b_O_fall 2 (some .int) 3 66 [.ref (E.2.2 0), .int (iI b)] M (zPi (fun r M2 => r = fFall S b ∧ RX (gFall S b) M2)) := by
  refine zK.of "OldBeams" rfl (by decide) (Nat.le_of_ble_eq_true rfl) ?_
  intro G hS hE hQ hL C
  subst hE
  subst hL
  show VJ G M 0 [some (.ref (G.2.1.2.2 0)), some (.int (iI b))] []
  have h12 := hO.n
  have hbn := hR.n
  obtain ⟨m, em, hm, hmb⟩ := hR.2.2.2.2.1
  refine r_ald0 C (pc := 0) d_O_fall_0 ?_
  refine gX_O_frame C (pc := 1) hS k_201 d_O_fall_1 ?_
  refine r_ild1 C (pc := 4) d_O_fall_4 ?_
  refine call_F_hasBeam C (pc := 5) hS (c_F_hasBeam _ _ M b (by omega) (by omega)) k_257 (by decide) (Nat.le_of_ble_eq_true rfl) rfl d_O_fall_5 (kkI (fun r5 N5 h5 => ?_))
  obtain ⟨rfl, rfl⟩ := h5
  rw [hbn]
  refine r_ifneB C (pc := 8) (tgt := 14) d_O_fall_8 (by decide) (fun c8 => ?_) (fun c8 => ?_)
  · obtain ⟨b, rfl⟩ := Int.eq_ofNat_of_zero_le c8.1
    have hb : b < S.1 0 := by omega
    have hfb := hmb b (by omega)
    refine r_ald0 C (pc := 14) d_O_fall_14 ?_
    refine gX_O_frame C (pc := 15) hS k_201 d_O_fall_15 ?_
    refine gX_F_fallen C (pc := 18) hS k_99 d_O_fall_18 ?_
    rw [em]
    refine r_ild1 C (pc := 21) d_O_fall_21 ?_
    refine call_O_isIn C (pc := 22) hS (c_O_isIn _ _ M m b (by omega) (by omega)) k_324 (by decide) (Nat.le_of_ble_eq_true rfl) rfl d_O_fall_22 (kkI (fun r22 N22 h22 => ?_))
    obtain ⟨rfl, rfl⟩ := h22
    refine r_ifeqB C (pc := 25) (tgt := 31) d_O_fall_25 (by decide) (fun c25 => ?_) (fun c25 => ?_)
    · have hmo : m ||| 2 ^ b < 4096 := Nat.or_lt_two_pow (n := 12) hm (Nat.pow_lt_pow_right (by decide) (by omega))
      have hO2 := ok_fall hO hb
      have hR2 : RX (uS S 2 b 5 1) (zI M 1 3 ((m ||| 2 ^ b : Nat) : Int)) := RX_fall hR hO (by omega) hmo (fun i hi => by rw [tb_or, hmb i hi])
      have hmb3 := fl_up (b := b) hmb
      refine r_ald0 C (pc := 31) d_O_fall_31 ?_
      refine gX_O_frame C (pc := 32) hS k_201 d_O_fall_32 ?_
      refine r_dup C (pc := 35) rfl d_O_fall_35 ?_
      refine gX_F_fallen C (pc := 36) hS k_99 d_O_fall_36 ?_
      rw [em]
      refine r_iconst C (pc := 39) d_O_fall_39 ?_
      refine r_ild1 C (pc := 40) d_O_fall_40 ?_
      refine r_ishl C (pc := 41) (bi_shl (by omega)) d_O_fall_41 ?_
      refine r_ior C (pc := 42) (bi_or _ _) d_O_fall_42 ?_
      refine pX_F_fallen C (pc := 43) hS k_99 d_O_fall_43 ?_
      refine r_ald0 C (pc := 46) d_O_fall_46 ?_
      refine gX_O_frame C (pc := 47) hS k_201 d_O_fall_47 ?_
      refine r_ald0 C (pc := 50) d_O_fall_50 ?_
      refine gX_O_frame C (pc := 51) hS k_201 d_O_fall_51 ?_
      refine gX_F_fallen C (pc := 54) hS k_99 d_O_fall_54 ?_
      rw [zI_same]
      refine call_F_downBy C (pc := 57) hS (c_F_downBy _ _ _ (uS S 2 b 5 1) hR2 hO2 (m ||| 2 ^ b) hmo) k_325 (by decide) (Nat.le_of_ble_eq_true rfl) rfl d_O_fall_57 (kkI (fun r57 N57 h57 => ?_))
      obtain ⟨⟨w, rfl, hw, hwb⟩, rfl⟩ := h57
      refine call_In_bitCount C (pc := 60) hS (c_In_bitCount _ _ _ w hw) k_326 (by decide) (Nat.le_of_ble_eq_true rfl) rfl d_O_fall_60 (kkI (fun r60 N60 h60 => ?_))
      obtain ⟨rfl, rfl⟩ := h60
      exact r_iret C (pc := 63) hQ (⟨by unfold fFall; rw [if_neg (by omega), Int.toNat_natCast, if_neg (fun z => c25 (hfb.trans (decide_eq_true z))), dw_cnt hO2 hmb3 hwb]; rfl, by unfold gFall; rw [Int.toNat_natCast, if_pos ⟨by omega, fun z => c25 (hfb.trans (decide_eq_true z))⟩]; exact hR2⟩) d_O_fall_63
    · refine r_ldc C (pc := 28) (z := (-900003)) k_268 rfl d_O_fall_28 ?_
      exact r_iret C (pc := 30) hQ (⟨by unfold fFall; rw [if_neg (by omega), Int.toNat_natCast, if_pos (of_decide_eq_true (hfb.symm.trans c25))], by unfold gFall; rw [Int.toNat_natCast, if_neg (fun z => z.2 (of_decide_eq_true (hfb.symm.trans c25)))]; exact hR⟩) d_O_fall_30
  · refine r_ldc C (pc := 11) (z := (-900001)) k_230 rfl d_O_fall_11 ?_
    exact r_iret C (pc := 13) hQ (⟨by unfold fFall; rw [if_pos (by omega)], by unfold gFall; rw [if_neg (by omega)]; exact hR⟩) d_O_fall_13
set_option maxRecDepth 20000 in
theorem c_O_weight (l : Launch) (E : zE) (M : zM) (S : zS) (hR : RX S M) (hO : ok S) (b t v : Int) (hb : -2147483648 ≤ b ∧ b < 2147483648) (ht : -2147483648 ≤ t ∧ t < 2147483648) (hv : -2147483648 ≤ v ∧ v < 2147483648) : zK l sX E y_O_weight b_O_weight 5 (some .int) 2 43 [.ref (E.2.2 0), .int (iI b), .int (iI t), .int (iI v)] M (zPi (fun r M2 => r = fWeight S b t v ∧ RX (gWeight S b t v) M2)) := by
  refine zK.of "OldBeams" rfl (by decide) (Nat.le_of_ble_eq_true rfl) ?_
  intro G hS hE hQ hL C
  subst hE
  subst hL
  show VJ G M 0 [some (.ref (G.2.1.2.2 0)), some (.int (iI b)), some (.int (iI t)), some (.int (iI v)), none] []
  have h12 := hO.n
  have hbn := hR.n
  refine r_ald0 C (pc := 0) d_O_weight_0 ?_
  refine gX_O_frame C (pc := 1) hS k_201 d_O_weight_1 ?_
  refine r_ild1 C (pc := 4) d_O_weight_4 ?_
  refine call_F_hasBeam C (pc := 5) hS (c_F_hasBeam _ _ M b (by omega) (by omega)) k_257 (by decide) (Nat.le_of_ble_eq_true rfl) rfl d_O_weight_5 (kkI (fun r5 N5 h5 => ?_))
  obtain ⟨rfl, rfl⟩ := h5
  rw [hbn]
  refine r_ifneB C (pc := 8) (tgt := 14) d_O_weight_8 (by decide) (fun c8 => ?_) (fun c8 => ?_)
  · obtain ⟨b, rfl⟩ := Int.eq_ofNat_of_zero_le c8.1
    have hb : b < S.1 0 := by omega
    refine r_ild2 C (pc := 14) d_O_weight_14 ?_
    refine r_iconst C (pc := 15) d_O_weight_15 ?_
    refine r_bipush C (pc := 16) (n := 10) rfl d_O_weight_16 ?_
    refine call_O_within C (pc := 18) hS (c_O_within _ _ _ _ _ _ (by omega) (by omega) (by omega)) k_227 (by decide) (Nat.le_of_ble_eq_true rfl) rfl d_O_weight_18 (kkI (fun r18 N18 h18 => ?_))
    obtain ⟨rfl, rfl⟩ := h18
    refine r_ifeqB C (pc := 21) (tgt := 34) d_O_weight_21 (by decide) (fun c21 => ?_) (fun c21 => ?_)
    · refine r_ldc C (pc := 34) (z := (-900002)) k_231 rfl d_O_weight_34 ?_
      exact r_iret C (pc := 36) hQ (⟨by unfold fWeight; rw [if_neg (by omega), if_pos (by omega)], by unfold gWeight; rw [if_neg (fun z => absurd z.2.1 (by omega))]; exact hR⟩) d_O_weight_36
    · refine r_ild3 C (pc := 24) d_O_weight_24 ?_
      refine r_iconst C (pc := 25) d_O_weight_25 ?_
      refine r_bipush C (pc := 26) (n := 99) rfl d_O_weight_26 ?_
      refine call_O_within C (pc := 28) hS (c_O_within _ _ _ _ _ _ (by omega) (by omega) (by omega)) k_227 (by decide) (Nat.le_of_ble_eq_true rfl) rfl d_O_weight_28 (kkI (fun r28 N28 h28 => ?_))
      obtain ⟨rfl, rfl⟩ := h28
      refine r_ifneB C (pc := 31) (tgt := 37) d_O_weight_31 (by decide) (fun c31 => ?_) (fun c31 => ?_)
      · refine r_ald0 C (pc := 37) d_O_weight_37 ?_
        refine gX_O_looks C (pc := 38) hS k_202 d_O_weight_38 ?_
        refine r_ild1 C (pc := 41) d_O_weight_41 ?_
        refine call_K_countAt C (pc := 42) hS (c_K_countAt _ _ M S hR hO b (by omega)) k_418 (by decide) (Nat.le_of_ble_eq_true rfl) rfl d_O_weight_42 (kkI (fun r42 N42 h42 => ?_))
        obtain ⟨rfl, rfl⟩ := h42
        have hl8 := hO.2.2.2.2.2.2.2.2.2.2.2.1 b (by omega)
        refine r_if_gt C (pc := 45) (tgt := 61) (by omega) d_O_weight_45 (by decide) (fun c45 => ?_) (fun c45 => ?_)
        · refine r_ldc C (pc := 61) (z := (-900003)) k_268 rfl d_O_weight_61 ?_
          exact r_iret C (pc := 63) hQ (⟨by unfold fWeight; rw [if_neg (by omega), if_neg (by omega), Int.toNat_natCast, if_pos (by first | exact Or.inl (by omega) | exact Or.inr (Bool.eq_false_iff.mpr c58))], by unfold gWeight; rw [Int.toNat_natCast, if_neg (fun z => z.2.2 (by first | exact Or.inl (by omega) | exact Or.inr (Bool.eq_false_iff.mpr c58)))]; exact hR⟩) d_O_weight_63
        · refine r_ald0 C (pc := 48) d_O_weight_48 ?_
          refine gX_O_looks C (pc := 49) hS k_202 d_O_weight_49 ?_
          refine r_ild1 C (pc := 52) d_O_weight_52 ?_
          refine r_ild2 C (pc := 53) d_O_weight_53 ?_
          refine r_ild3 C (pc := 54) d_O_weight_54 ?_
          refine call_K_anyWeightLeft C (pc := 55) hS (c_K_anyWeightLeft _ _ M S hR hO b (by omega) t v (by omega) (by omega)) k_422 (by decide) (Nat.le_of_ble_eq_true rfl) rfl d_O_weight_55 (kkI (fun r55 N55 h55 => ?_))
          obtain ⟨rfl, rfl⟩ := h55
          refine r_ifneB C (pc := 58) (tgt := 64) d_O_weight_58 (by decide) (fun c58 => ?_) (fun c58 => ?_)
          · refine r_ald0 C (pc := 64) d_O_weight_64 ?_
            refine gX_O_looks C (pc := 65) hS k_202 d_O_weight_65 ?_
            refine gX_K_weights C (pc := 68) hS k_157 d_O_weight_68 ?_
            refine r_ild1 C (pc := 71) d_O_weight_71 ?_
            refine X_weightsN C (pc := 72) hS (b) (by omega) (by omega) d_O_weight_72 ?_
            refine r_ild2 C (pc := 73) d_O_weight_73 ?_
            refine X_ialdN C (pc := 74) hS (t.toNat) (by omega) (shWr (by omega)) (by omega) (by omega) (by decide) d_O_weight_74 ?_
            rw [hR.2.2.2.2.2.2.2.2.1 b (by omega) t.toNat (by omega)]
            refine r_ist4 C (pc := 75) rfl d_O_weight_75 ?_
            refine r_ald0 C (pc := 77) d_O_weight_77 ?_
            refine gX_O_looks C (pc := 78) hS k_202 d_O_weight_78 ?_
            refine gX_K_weights C (pc := 81) hS k_157 d_O_weight_81 ?_
            refine r_ild1 C (pc := 84) d_O_weight_84 ?_
            refine X_weightsN C (pc := 85) hS (b) (by omega) (by omega) d_O_weight_85 ?_
            refine r_ild2 C (pc := 86) d_O_weight_86 ?_
            refine r_ild3 C (pc := 87) d_O_weight_87 ?_
            refine X_iastN C (pc := 88) hS (t.toNat) (by omega) (shWr (by omega)) (by omega) (by omega) (by decide)  d_O_weight_88 ?_
            refine r_ild4 C (pc := 89) d_O_weight_89 ?_
            exact r_iret C (pc := 91) hQ (⟨by unfold fWeight; rw [if_neg (by omega), if_neg (by omega), Int.toNat_natCast, if_neg (fun z => z.elim (by omega) (fun z2 => Bool.eq_false_iff.mp z2 c58))], by unfold gWeight; rw [Int.toNat_natCast, if_pos ⟨by omega, by omega, fun z => z.elim (by omega) (fun z2 => Bool.eq_false_iff.mp z2 c58)⟩]; exact RX_weight hR hO (by omega) (by omega)⟩) d_O_weight_91
          · refine r_ldc C (pc := 61) (z := (-900003)) k_268 rfl d_O_weight_61 ?_
            exact r_iret C (pc := 63) hQ (⟨by unfold fWeight; rw [if_neg (by omega), if_neg (by omega), Int.toNat_natCast, if_pos (by first | exact Or.inl (by omega) | exact Or.inr (Bool.eq_false_iff.mpr c58))], by unfold gWeight; rw [Int.toNat_natCast, if_neg (fun z => z.2.2 (by first | exact Or.inl (by omega) | exact Or.inr (Bool.eq_false_iff.mpr c58)))]; exact hR⟩) d_O_weight_63
      · refine r_ldc C (pc := 34) (z := (-900002)) k_231 rfl d_O_weight_34 ?_
        exact r_iret C (pc := 36) hQ (⟨by unfold fWeight; rw [if_neg (by omega), if_pos (by omega)], by unfold gWeight; rw [if_neg (fun z => absurd z.2.1 (by omega))]; exact hR⟩) d_O_weight_36
  · refine r_ldc C (pc := 11) (z := (-900001)) k_230 rfl d_O_weight_11 ?_
    exact r_iret C (pc := 13) hQ (⟨by unfold fWeight; rw [if_pos (by omega)], by unfold gWeight; rw [if_neg (by omega)]; exact hR⟩) d_O_weight_13
set_option maxRecDepth 20000 in
theorem c_O_tool (l : Launch) (E : zE) (M : zM) (S : zS) (hR : RX S M) (hO : ok S) (k t v : Int) (hk : -2147483648 ≤ k ∧ k < 2147483648) (ht : -2147483648 ≤ t ∧ t < 2147483648) (hv : -2147483648 ≤ v ∧ v < 2147483648) : zK l sX E y_O_tool b_O_tool 5 (some .int) 2 42 [.ref (E.2.2 0), .int (iI k), .int (iI t), .int (iI v)] M (zPi (fun r M2 => r = fTool S k t v ∧ RX (gTool S k t v) M2)) := by
  refine zK.of "OldBeams" rfl (by decide) (Nat.le_of_ble_eq_true rfl) ?_
  intro G hS hE hQ hL C
  subst hE
  subst hL
  show VJ G M 0 [some (.ref (G.2.1.2.2 0)), some (.int (iI k)), some (.int (iI t)), some (.int (iI v)), none] []
  have h12 := hO.n
  have hbn := hR.n
  refine r_ild1 C (pc := 0) d_O_tool_0 ?_
  refine call_O_isTool C (pc := 1) hS (c_O_isTool _ _ _ _ (by omega)) k_430 (by decide) (Nat.le_of_ble_eq_true rfl) rfl d_O_tool_1 (kkI (fun r1 N1 h1 => ?_))
  obtain ⟨rfl, rfl⟩ := h1
  refine r_ifneB C (pc := 4) (tgt := 10) d_O_tool_4 (by decide) (fun c4 => ?_) (fun c4 => ?_)
  · obtain ⟨k, rfl⟩ := Int.eq_ofNat_of_zero_le c4.1
    refine r_ild2 C (pc := 10) d_O_tool_10 ?_
    refine r_iconst C (pc := 11) d_O_tool_11 ?_
    refine r_bipush C (pc := 12) (n := 10) rfl d_O_tool_12 ?_
    refine call_O_within C (pc := 14) hS (c_O_within _ _ _ _ _ _ (by omega) (by omega) (by omega)) k_227 (by decide) (Nat.le_of_ble_eq_true rfl) rfl d_O_tool_14 (kkI (fun r14 N14 h14 => ?_))
    obtain ⟨rfl, rfl⟩ := h14
    refine r_ifeqB C (pc := 17) (tgt := 30) d_O_tool_17 (by decide) (fun c17 => ?_) (fun c17 => ?_)
    · refine r_ldc C (pc := 30) (z := (-900002)) k_231 rfl d_O_tool_30 ?_
      exact r_iret C (pc := 32) hQ (⟨by unfold fTool; rw [if_neg (by omega), if_pos (by omega)], by unfold gTool; rw [if_neg (fun z => absurd z.2.1 (by omega))]; exact hR⟩) d_O_tool_32
    · refine r_ild3 C (pc := 20) d_O_tool_20 ?_
      refine r_iconst C (pc := 21) d_O_tool_21 ?_
      refine r_bipush C (pc := 22) (n := 9) rfl d_O_tool_22 ?_
      refine call_O_within C (pc := 24) hS (c_O_within _ _ _ _ _ _ (by omega) (by omega) (by omega)) k_227 (by decide) (Nat.le_of_ble_eq_true rfl) rfl d_O_tool_24 (kkI (fun r24 N24 h24 => ?_))
      obtain ⟨rfl, rfl⟩ := h24
      refine r_ifneB C (pc := 27) (tgt := 33) d_O_tool_27 (by decide) (fun c27 => ?_) (fun c27 => ?_)
      · refine r_ald0 C (pc := 33) d_O_tool_33 ?_
        refine gX_O_looks C (pc := 34) hS k_202 d_O_tool_34 ?_
        refine r_ild1 C (pc := 37) d_O_tool_37 ?_
        refine call_K_isUsed C (pc := 38) hS (c_K_isUsed _ _ M S hR hO k (by omega)) k_433 (by decide) (Nat.le_of_ble_eq_true rfl) rfl d_O_tool_38 (kkI (fun r38 N38 h38 => ?_))
        obtain ⟨rfl, rfl⟩ := h38
        refine r_ifeqB C (pc := 41) (tgt := 47) d_O_tool_41 (by decide) (fun c41 => ?_) (fun c41 => ?_)
        · refine r_ald0 C (pc := 47) d_O_tool_47 ?_
          refine gX_O_looks C (pc := 48) hS k_202 d_O_tool_48 ?_
          refine gX_K_tools C (pc := 51) hS k_159 d_O_tool_51 ?_
          refine r_ild1 C (pc := 54) d_O_tool_54 ?_
          refine X_toolsN C (pc := 55) hS (k) (by omega) (by omega) d_O_tool_55 ?_
          refine r_ild2 C (pc := 56) d_O_tool_56 ?_
          refine X_ialdN C (pc := 57) hS (t.toNat) (by omega) (shTr (by omega)) (by omega) (by omega) (by decide) d_O_tool_57 ?_
          rw [hR.2.2.2.2.2.2.2.2.2.1 k (by omega) t.toNat (by omega)]
          refine r_ist4 C (pc := 58) rfl d_O_tool_58 ?_
          refine r_ald0 C (pc := 60) d_O_tool_60 ?_
          refine gX_O_looks C (pc := 61) hS k_202 d_O_tool_61 ?_
          refine gX_K_tools C (pc := 64) hS k_159 d_O_tool_64 ?_
          refine r_ild1 C (pc := 67) d_O_tool_67 ?_
          refine X_toolsN C (pc := 68) hS (k) (by omega) (by omega) d_O_tool_68 ?_
          refine r_ild2 C (pc := 69) d_O_tool_69 ?_
          refine r_ild3 C (pc := 70) d_O_tool_70 ?_
          refine X_iastN C (pc := 71) hS (t.toNat) (by omega) (shTr (by omega)) (by omega) (by omega) (by decide)  d_O_tool_71 ?_
          refine r_ild4 C (pc := 72) d_O_tool_72 ?_
          exact r_iret C (pc := 74) hQ (⟨by unfold fTool; rw [if_neg (by omega), if_neg (by omega), if_neg c41, Int.toNat_natCast], by unfold gTool; rw [if_pos ⟨by omega, by omega, c41⟩, Int.toNat_natCast]; exact RX_tool hR hO (by omega) (by omega)⟩) d_O_tool_74
        · refine r_ldc C (pc := 44) (z := (-900003)) k_268 rfl d_O_tool_44 ?_
          exact r_iret C (pc := 46) hQ (⟨by unfold fTool; rw [if_neg (by omega), if_neg (by omega), if_pos c41], by unfold gTool; rw [if_neg (fun z => z.2.2 c41)]; exact hR⟩) d_O_tool_46
      · refine r_ldc C (pc := 30) (z := (-900002)) k_231 rfl d_O_tool_30 ?_
        exact r_iret C (pc := 32) hQ (⟨by unfold fTool; rw [if_neg (by omega), if_pos (by omega)], by unfold gTool; rw [if_neg (fun z => absurd z.2.1 (by omega))]; exact hR⟩) d_O_tool_32
  · refine r_ldc C (pc := 7) (z := (-900001)) k_230 rfl d_O_tool_7 ?_
    exact r_iret C (pc := 9) hQ (⟨by unfold fTool; rw [if_pos (by omega)], by unfold gTool; rw [if_neg (fun z => c4 z.1)]; exact hR⟩) d_O_tool_9
theorem lastY_rng {S : zS} (hO : ok S) : 0 ≤ lastY S ∧ lastY S ≤ 500 := by
  unfold lastY
  by_cases h : 0 < S.1 2
  · rw [if_pos h]; exact (hO.2.2.2.2.2.2.2.2.2.2.1 (S.1 2 - 1) (by omega)).2.2.2
  · rw [if_neg h]; decide
set_option maxRecDepth 20000 in
theorem c_O_look (l : Launch) (E : zE) (M : zM) (S : zS) (hR : RX S M) (hO : ok S) (b k oc y : Int) (hb : -2147483648 ≤ b ∧ b < 2147483648) (hk : -2147483648 ≤ k ∧ k < 2147483648) (hoc : -2147483648 ≤ oc ∧ oc < 2147483648) (hy : -2147483648 ≤ y ∧ y < 2147483648) : zK l sX E y_O_look b_O_look 5 (some .int) 2 43 [.ref (E.2.2 0), .int (iI b), .int (iI k), .int (iI oc), .int (iI y)] M (zPi (fun r M2 => r = fLook S b k oc y ∧ RX (gLook S b k oc y) M2)) := by
  refine zK.of "OldBeams" rfl (by decide) (Nat.le_of_ble_eq_true rfl) ?_
  intro G hS hE hQ hL C
  subst hE
  subst hL
  show VJ G M 0 [some (.ref (G.2.1.2.2 0)), some (.int (iI b)), some (.int (iI k)), some (.int (iI oc)), some (.int (iI y))] []
  have h12 := hO.n
  have hbn := hR.n
  have hcap := hO.1
  refine r_ald0 C (pc := 0) d_O_look_0 ?_
  refine gX_O_frame C (pc := 1) hS k_201 d_O_look_1 ?_
  refine r_ild1 C (pc := 4) d_O_look_4 ?_
  refine call_F_hasBeam C (pc := 5) hS (c_F_hasBeam _ _ M b (by omega) (by omega)) k_257 (by decide) (Nat.le_of_ble_eq_true rfl) rfl d_O_look_5 (kkI (fun r5 N5 h5 => ?_))
  obtain ⟨rfl, rfl⟩ := h5
  rw [hbn]
  refine r_ifeqB C (pc := 8) (tgt := 18) d_O_look_8 (by decide) (fun c8 => ?_) (fun c8 => ?_)
  · refine r_ldc C (pc := 18) (z := (-900001)) k_230 rfl d_O_look_18 ?_
    exact r_iret C (pc := 20) hQ (⟨by unfold fLook; rw [if_pos (by omega)], by unfold gLook; rw [if_neg (by omega)]; exact hR⟩) d_O_look_20
  · obtain ⟨b, rfl⟩ := Int.eq_ofNat_of_zero_le c8.1
    have hb : b < S.1 0 := by omega
    refine r_ild2 C (pc := 11) d_O_look_11 ?_
    refine call_O_isTool C (pc := 12) hS (c_O_isTool _ _ _ _ (by omega)) k_430 (by decide) (Nat.le_of_ble_eq_true rfl) rfl d_O_look_12 (kkI (fun r12 N12 h12 => ?_))
    obtain ⟨rfl, rfl⟩ := h12
    refine r_ifneB C (pc := 15) (tgt := 21) d_O_look_15 (by decide) (fun c15 => ?_) (fun c15 => ?_)
    · refine r_ild3 C (pc := 21) d_O_look_21 ?_
      refine r_iconst C (pc := 22) d_O_look_22 ?_
      refine r_iconst C (pc := 23) d_O_look_23 ?_
      refine call_O_within C (pc := 24) hS (c_O_within _ _ _ _ _ _ (by omega) (by omega) (by omega)) k_227 (by decide) (Nat.le_of_ble_eq_true rfl) rfl d_O_look_24 (kkI (fun r24 N24 h24 => ?_))
      obtain ⟨rfl, rfl⟩ := h24
      refine r_ifeqB C (pc := 27) (tgt := 38) d_O_look_27 (by decide) (fun c27 => ?_) (fun c27 => ?_)
      · refine r_ldc C (pc := 38) (z := (-900002)) k_231 rfl d_O_look_38 ?_
        exact r_iret C (pc := 40) hQ (⟨by unfold fLook; rw [if_neg (by omega), if_pos (by omega)], by unfold gLook; rw [if_neg (by omega)]; exact hR⟩) d_O_look_40
      · refine r_ild4 C (pc := 30) d_O_look_30 ?_
        refine call_O_isYear C (pc := 32) hS (c_O_isYear _ _ _ _ (by omega)) k_236 (by decide) (Nat.le_of_ble_eq_true rfl) rfl d_O_look_32 (kkI (fun r32 N32 h32 => ?_))
        obtain ⟨rfl, rfl⟩ := h32
        refine r_ifneB C (pc := 35) (tgt := 41) d_O_look_35 (by decide) (fun c35 => ?_) (fun c35 => ?_)
        · refine r_ild4 C (pc := 41) d_O_look_41 ?_
          refine r_ald0 C (pc := 43) d_O_look_43 ?_
          refine gX_O_looks C (pc := 44) hS k_202 d_O_look_44 ?_
          refine call_K_lastYear C (pc := 47) hS (c_K_lastYear _ _ M S hR hO) k_441 (by decide) (Nat.le_of_ble_eq_true rfl) rfl d_O_look_47 (kkI (fun r47 N47 h47 => ?_))
          obtain ⟨rfl, rfl⟩ := h47
          rw [show (if 0 < S.1 2 then S.2 10 (S.1 2 - 1) 3 else 0) = lastY S from rfl]
          have hly := lastY_rng hO
          refine r_icmp_ge C (pc := 50) (tgt := 56) (by omega) (by omega) d_O_look_50 (by decide) (fun c50 => ?_) (fun c50 => ?_)
          · refine r_ald0 C (pc := 56) d_O_look_56 ?_
            refine gX_O_looks C (pc := 57) hS k_202 d_O_look_57 ?_
            refine gX_K_lookCount C (pc := 60) hS k_165 d_O_look_60 ?_
            rw [hR.1.2.2.1]
            refine r_bipush C (pc := 63) (n := 60) rfl d_O_look_63 ?_
            refine r_icmp_ge C (pc := 65) (tgt := 81) (by omega) (by omega) d_O_look_65 (by decide) (fun c65 => ?_) (fun c65 => ?_)
            · refine r_ldc C (pc := 81) (z := (-900004)) k_239 rfl d_O_look_81 ?_
              exact r_iret C (pc := 83) hQ (⟨by unfold fLook; rw [if_neg (by omega), if_neg (by omega), if_neg (by omega), Int.toNat_natCast, if_pos (by omega)], by unfold gLook; rw [Int.toNat_natCast, if_neg (by omega)]; exact hR⟩) d_O_look_83
            · refine r_ald0 C (pc := 68) d_O_look_68 ?_
              refine gX_O_looks C (pc := 69) hS k_202 d_O_look_69 ?_
              refine r_ild1 C (pc := 72) d_O_look_72 ?_
              refine call_K_countAt C (pc := 73) hS (c_K_countAt _ _ M S hR hO b (by omega)) k_418 (by decide) (Nat.le_of_ble_eq_true rfl) rfl d_O_look_73 (kkI (fun r73 N73 h73 => ?_))
              obtain ⟨rfl, rfl⟩ := h73
              have hl8 := hO.2.2.2.2.2.2.2.2.2.2.2.1 b (by omega)
              refine r_bipush C (pc := 76) (n := 8) rfl d_O_look_76 ?_
              refine r_icmp_lt C (pc := 78) (tgt := 84) (by omega) (by omega) d_O_look_78 (by decide) (fun c78 => ?_) (fun c78 => ?_)
              · refine r_ald0 C (pc := 84) d_O_look_84 ?_
                refine gX_O_looks C (pc := 85) hS k_202 d_O_look_85 ?_
                refine r_ild1 C (pc := 88) d_O_look_88 ?_
                refine r_ild2 C (pc := 89) d_O_look_89 ?_
                refine r_ild3 C (pc := 90) d_O_look_90 ?_
                refine r_ild4 C (pc := 91) d_O_look_91 ?_
                refine call_K_addLook C (pc := 93) hS (c_K_addLook _ _ M (S.1 2) (by omega) hR.1.2.2.1 (b : Int) k oc y) k_445 (by decide) (Nat.le_of_ble_eq_true rfl) rfl d_O_look_93 (kkI (fun r93 N93 h93 => ?_))
                obtain ⟨rfl, h93⟩ := h93
                exact r_iret C (pc := 96) hQ (⟨by unfold fLook; rw [if_neg (by omega), if_neg (by omega), if_neg (by omega), Int.toNat_natCast, if_neg (by omega)], by unfold gLook; rw [Int.toNat_natCast, if_pos (by omega), ← h93]; exact RX_look hR hO (by omega)⟩) d_O_look_96
              · refine r_ldc C (pc := 81) (z := (-900004)) k_239 rfl d_O_look_81 ?_
                exact r_iret C (pc := 83) hQ (⟨by unfold fLook; rw [if_neg (by omega), if_neg (by omega), if_neg (by omega), Int.toNat_natCast, if_pos (by omega)], by unfold gLook; rw [Int.toNat_natCast, if_neg (by omega)]; exact hR⟩) d_O_look_83
          · refine r_ldc C (pc := 53) (z := (-900003)) k_268 rfl d_O_look_53 ?_
            exact r_iret C (pc := 55) hQ (⟨by unfold fLook; rw [if_neg (by omega), if_neg (by omega), if_pos (by omega)], by unfold gLook; rw [if_neg (by omega)]; exact hR⟩) d_O_look_55
        · refine r_ldc C (pc := 38) (z := (-900002)) k_231 rfl d_O_look_38 ?_
          exact r_iret C (pc := 40) hQ (⟨by unfold fLook; rw [if_neg (by omega), if_pos (by omega)], by unfold gLook; rw [if_neg (by omega)]; exact hR⟩) d_O_look_40
    · refine r_ldc C (pc := 18) (z := (-900001)) k_230 rfl d_O_look_18 ?_
      exact r_iret C (pc := 20) hQ (⟨by unfold fLook; rw [if_pos (by omega)], by unfold gLook; rw [if_neg (by omega)]; exact hR⟩) d_O_look_20
set_option maxRecDepth 20000 in
theorem c_O_price (l : Launch) (E : zE) (M : zM) (S : zS) (hR : RX S M) (hO : ok S) (w v : Int) (hw : -2147483648 ≤ w ∧ w < 2147483648) (hv : -2147483648 ≤ v ∧ v < 2147483648) : zK l sX E y_O_price b_O_price 4 (some .int) 1 22 [.ref (E.2.2 0), .int (iI w), .int (iI v)] M (zPi (fun r M2 => r = fPrice S w v ∧ RX (gPrice S w v) M2)) := by
  refine zK.of "OldBeams" rfl (by decide) (Nat.le_of_ble_eq_true rfl) ?_
  intro G hS hE hQ hL C
  subst hE
  subst hL
  show VJ G M 0 [some (.ref (G.2.1.2.2 0)), some (.int (iI w)), some (.int (iI v)), none] []
  have h12 := hO.n
  have hbn := hR.n
  refine r_ild1 C (pc := 0) d_O_price_0 ?_
  refine r_iconst C (pc := 1) d_O_price_1 ?_
  refine r_iconst C (pc := 2) d_O_price_2 ?_
  refine call_O_within C (pc := 3) hS (c_O_within _ _ _ _ _ _ (by omega) (by omega) (by omega)) k_227 (by decide) (Nat.le_of_ble_eq_true rfl) rfl d_O_price_3 (kkI (fun r3 N3 h3 => ?_))
  obtain ⟨rfl, rfl⟩ := h3
  refine r_ifeqB C (pc := 6) (tgt := 20) d_O_price_6 (by decide) (fun c6 => ?_) (fun c6 => ?_)
  · refine r_ldc C (pc := 20) (z := (-900002)) k_231 rfl d_O_price_20 ?_
    exact r_iret C (pc := 22) hQ (⟨by unfold fPrice; rw [if_pos (by omega)], by unfold gPrice; rw [if_neg (by omega)]; exact hR⟩) d_O_price_22
  · refine r_ild2 C (pc := 9) d_O_price_9 ?_
    refine r_iconst C (pc := 10) d_O_price_10 ?_
    refine r_sipush C (pc := 11) (n := 9999) rfl d_O_price_11 ?_
    refine call_O_within C (pc := 14) hS (c_O_within _ _ _ _ _ _ (by omega) (by omega) (by omega)) k_227 (by decide) (Nat.le_of_ble_eq_true rfl) rfl d_O_price_14 (kkI (fun r14 N14 h14 => ?_))
    obtain ⟨rfl, rfl⟩ := h14
    refine r_ifneB C (pc := 17) (tgt := 23) d_O_price_17 (by decide) (fun c17 => ?_) (fun c17 => ?_)
    · refine r_ald0 C (pc := 23) d_O_price_23 ?_
      refine gX_O_prices C (pc := 24) hS k_205 d_O_price_24 ?_
      refine r_ild1 C (pc := 27) d_O_price_27 ?_
      refine X_ialdN C (pc := 28) hS (w.toNat) (by omega) rfl (by decide) (by omega) (by decide) d_O_price_28 ?_
      refine r_ist3 C (pc := 29) rfl d_O_price_29 ?_
      refine r_ald0 C (pc := 30) d_O_price_30 ?_
      refine gX_O_prices C (pc := 31) hS k_205 d_O_price_31 ?_
      refine r_ild1 C (pc := 34) d_O_price_34 ?_
      refine r_ild2 C (pc := 35) d_O_price_35 ?_
      refine X_iastN C (pc := 36) hS (w.toNat) (by omega) rfl (by decide) (by omega) (by decide)  d_O_price_36 ?_
      refine r_ild3 C (pc := 37) d_O_price_37 ?_
      exact r_iret C (pc := 38) hQ (⟨by unfold fPrice; rw [if_neg (by omega)]; rcases (show w = 0 ∨ w = 1 by omega) with rfl | rfl; (· exact hR.2.2.2.2.2.2.2.2.2.2.2.1); exact hR.2.2.2.2.2.2.2.2.2.2.2.2, by unfold gPrice; rw [if_pos (by omega)]; exact RX_price hR hO (by omega)⟩) d_O_price_38
    · refine r_ldc C (pc := 20) (z := (-900002)) k_231 rfl d_O_price_20 ?_
      exact r_iret C (pc := 22) hQ (⟨by unfold fPrice; rw [if_pos (by omega)], by unfold gPrice; rw [if_neg (by omega)]; exact hR⟩) d_O_price_22
theorem set_or : ∀ m, m < 256 → ∀ p, p < 8 → (m ||| 2 ^ (7 - p)) < 256 ∧ ∀ i, i < 8 → (m ||| 2 ^ (7 - p)).testBit (7 - i) = (if i = p then true else m.testBit (7 - i)) := by decide +kernel
theorem set_no : ∀ m, m < 256 → ∀ p, p < 8 → iI ((m : Nat) : Int) &&& (iI ((2 ^ (7 - p) : Nat) : Int) ^^^ iI (-1)) = iI (((m &&& (255 - 2 ^ (7 - p)) : Nat)) : Int) ∧ (m &&& (255 - 2 ^ (7 - p))) < 256 ∧ ∀ i, i < 8 → (m &&& (255 - 2 ^ (7 - p))).testBit (7 - i) = (if i = p then false else m.testBit (7 - i)) := by decide +kernel
theorem set_rd {S : zS} {m p : Nat} (hO : ok S) (hp : p < 8) (h : m.testBit (7 - p) = psS S p) : (if (m &&& 2 ^ (7 - p) : Nat) = 0 then (0 : Int) else 1) = S.2 7 p 3 := by
  have q := (hO.2.2.2.2.2.2.2.1 p hp).1
  have hb := tb_and (q := m) (k := 7 - p)
  rw [h] at hb
  unfold psS at hb
  by_cases e : (m &&& 2 ^ (7 - p) : Nat) = 0
  · rw [if_pos e]
    have := hb.mp e
    rw [decide_eq_true_eq] at this
    omega
  · rw [if_neg e]
    have := mt hb.mpr e
    rw [Classical.not_not, decide_eq_true_eq] at this
    omega
set_option maxRecDepth 20000 in
theorem c_O_set (l : Launch) (E : zE) (M : zM) (S : zS) (hR : RX S M) (hO : ok S) (p z : Int) (hp : -2147483648 ≤ p ∧ p < 2147483648) (hz : z = 0 ∨ z = 1) : zK l sX E y_O_set b_O_set 5 (some .int) 1 22 [.ref (E.2.2 0), .int (iI p), .int (iI z)] M (zPi (fun r M2 => r = fSet S p ∧ RX (gSet S p z) M2)) := by
  refine zK.of "OldBeams" rfl (by decide) (Nat.le_of_ble_eq_true rfl) ?_
  intro G hS hE hQ hL C
  subst hE
  subst hL
  show VJ G M 0 [some (.ref (G.2.1.2.2 0)), some (.int (iI p)), some (.int (iI z)), none, none] []
  have h12 := hO.n
  have hbn := hR.n
  have hcap := hO.1
  obtain ⟨m, em, hm, hmb⟩ := hR.2.2.2.2.2.2.2.1
  refine r_ild1 C (pc := 0) d_O_set_0 ?_
  refine r_iconst C (pc := 1) d_O_set_1 ?_
  refine r_ald0 C (pc := 2) d_O_set_2 ?_
  refine gX_O_frame C (pc := 3) hS k_201 d_O_set_3 ?_
  refine gX_F_propCount C (pc := 6) hS k_113 d_O_set_6 ?_
  rw [hR.1.2.2.2]
  refine r_iconst C (pc := 9) d_O_set_9 ?_
  refine r_isub C (pc := 10) d_O_set_10 ?_
  refine call_O_within C (pc := 11) hS (c_O_within _ _ _ _ _ _ (by omega) (by omega) (by omega)) k_227 (by decide) (Nat.le_of_ble_eq_true rfl) rfl d_O_set_11 (kkI (fun r11 N11 h11 => ?_))
  obtain ⟨rfl, rfl⟩ := h11
  refine r_ifneB C (pc := 14) (tgt := 20) d_O_set_14 (by decide) (fun c14 => ?_) (fun c14 => ?_)
  · obtain ⟨p, rfl⟩ := Int.eq_ofNat_of_zero_le c14.1
    have hp : p < 8 := by omega
    have hrd := set_rd hO hp (hmb p hp)
    have hle : m &&& 2 ^ (7 - p) ≤ m := Nat.and_le_left
    refine r_ild1 C (pc := 20) d_O_set_20 ?_
    refine call_F_propBit C (pc := 21) hS (c_F_propBit _ _ M p (by omega)) k_572 (by decide) (Nat.le_of_ble_eq_true rfl) rfl d_O_set_21 (kkI (fun r21 N21 h21 => ?_))
    obtain ⟨rfl, rfl⟩ := h21
    refine r_ist3 C (pc := 24) rfl d_O_set_24 ?_
    refine r_ald0 C (pc := 25) d_O_set_25 ?_
    refine gX_O_frame C (pc := 26) hS k_201 d_O_set_26 ?_
    refine gX_F_setProps C (pc := 29) hS k_115 d_O_set_29 ?_
    rw [em]
    refine r_ild3 C (pc := 32) d_O_set_32 ?_
    refine r_iand C (pc := 33) (bi_and _ _) d_O_set_33 ?_
    refine r_if_eq C (pc := 34) (tgt := 41) (by omega) d_O_set_34 (by decide) (fun c34 => ?_) (fun c34 => ?_)
    · refine r_iconst C (pc := 41) d_O_set_41 ?_
      refine call_O_asNumber C (pc := 42) hS (c_O_asNumber _ _ _ _ (by decide)) k_282 (by decide) (Nat.le_of_ble_eq_true rfl) rfl d_O_set_42 (kkI (fun r42 N42 h42 => ?_))
      obtain ⟨rfl, rfl⟩ := h42
      refine r_ist4 C (pc := 45) rfl d_O_set_45 ?_
      refine r_ald0 C (pc := 47) d_O_set_47 ?_
      refine gX_O_frame C (pc := 48) hS k_201 d_O_set_48 ?_
      refine r_ild2 C (pc := 51) d_O_set_51 ?_
      refine r_if_eq C (pc := 52) (tgt := 67) (by omega) d_O_set_52 (by decide) (fun c52 => ?_) (fun c52 => ?_)
      · refine r_ald0 C (pc := 67) d_O_set_67 ?_
        refine gX_O_frame C (pc := 68) hS k_201 d_O_set_68 ?_
        refine gX_F_setProps C (pc := 71) hS k_115 d_O_set_71 ?_
        rw [em]
        refine r_ild3 C (pc := 74) d_O_set_74 ?_
        refine r_iconst C (pc := 75) d_O_set_75 ?_
        refine r_ixor C (pc := 76) rfl d_O_set_76 ?_
        refine r_iand C (pc := 77) (set_no m hm p (by omega)).1 d_O_set_77 ?_
        refine pX_F_setProps C (pc := 78) hS k_115 d_O_set_78 ?_
        refine r_ild4 C (pc := 81) d_O_set_81 ?_
        exact r_iret C (pc := 83) hQ (⟨by unfold fSet; rw [if_neg (by omega), Int.toNat_natCast, ← hrd]; first | rw [if_pos (by omega)] | rw [if_neg (by omega)], by unfold gSet; rw [if_pos (by omega), Int.toNat_natCast]; first | exact RX_set hR hO hp (set_or m hm p hp).1 (fun i hi => by rw [(set_or m hm p hp).2 i hi, hmb i hi, decide_eq_true (show z = 1 by omega)]) | exact RX_set hR hO hp (set_no m hm p hp).2.1 (fun i hi => by rw [(set_no m hm p hp).2.2 i hi, hmb i hi, decide_eq_false (show ¬ z = 1 by omega)])⟩) d_O_set_83
      · refine r_ald0 C (pc := 55) d_O_set_55 ?_
        refine gX_O_frame C (pc := 56) hS k_201 d_O_set_56 ?_
        refine gX_F_setProps C (pc := 59) hS k_115 d_O_set_59 ?_
        rw [em]
        refine r_ild3 C (pc := 62) d_O_set_62 ?_
        refine r_ior C (pc := 63) (bi_or _ _) d_O_set_63 ?_
        refine r_goto C (pc := 64) (tgt := 78) d_O_set_64 (by decide) ?_
        refine pX_F_setProps C (pc := 78) hS k_115 d_O_set_78 ?_
        refine r_ild4 C (pc := 81) d_O_set_81 ?_
        exact r_iret C (pc := 83) hQ (⟨by unfold fSet; rw [if_neg (by omega), Int.toNat_natCast, ← hrd]; first | rw [if_pos (by omega)] | rw [if_neg (by omega)], by unfold gSet; rw [if_pos (by omega), Int.toNat_natCast]; first | exact RX_set hR hO hp (set_or m hm p hp).1 (fun i hi => by rw [(set_or m hm p hp).2 i hi, hmb i hi, decide_eq_true (show z = 1 by omega)]) | exact RX_set hR hO hp (set_no m hm p hp).2.1 (fun i hi => by rw [(set_no m hm p hp).2.2 i hi, hmb i hi, decide_eq_false (show ¬ z = 1 by omega)])⟩) d_O_set_83
    · refine r_iconst C (pc := 37) d_O_set_37 ?_
      refine r_goto C (pc := 38) (tgt := 42) d_O_set_38 (by decide) ?_
      refine call_O_asNumber C (pc := 42) hS (c_O_asNumber _ _ _ _ (by decide)) k_282 (by decide) (Nat.le_of_ble_eq_true rfl) rfl d_O_set_42 (kkI (fun r42 N42 h42 => ?_))
      obtain ⟨rfl, rfl⟩ := h42
      refine r_ist4 C (pc := 45) rfl d_O_set_45 ?_
      refine r_ald0 C (pc := 47) d_O_set_47 ?_
      refine gX_O_frame C (pc := 48) hS k_201 d_O_set_48 ?_
      refine r_ild2 C (pc := 51) d_O_set_51 ?_
      refine r_if_eq C (pc := 52) (tgt := 67) (by omega) d_O_set_52 (by decide) (fun c52 => ?_) (fun c52 => ?_)
      · refine r_ald0 C (pc := 67) d_O_set_67 ?_
        refine gX_O_frame C (pc := 68) hS k_201 d_O_set_68 ?_
        refine gX_F_setProps C (pc := 71) hS k_115 d_O_set_71 ?_
        rw [em]
        refine r_ild3 C (pc := 74) d_O_set_74 ?_
        refine r_iconst C (pc := 75) d_O_set_75 ?_
        refine r_ixor C (pc := 76) rfl d_O_set_76 ?_
        refine r_iand C (pc := 77) (set_no m hm p (by omega)).1 d_O_set_77 ?_
        refine pX_F_setProps C (pc := 78) hS k_115 d_O_set_78 ?_
        refine r_ild4 C (pc := 81) d_O_set_81 ?_
        exact r_iret C (pc := 83) hQ (⟨by unfold fSet; rw [if_neg (by omega), Int.toNat_natCast, ← hrd]; first | rw [if_pos (by omega)] | rw [if_neg (by omega)], by unfold gSet; rw [if_pos (by omega), Int.toNat_natCast]; first | exact RX_set hR hO hp (set_or m hm p hp).1 (fun i hi => by rw [(set_or m hm p hp).2 i hi, hmb i hi, decide_eq_true (show z = 1 by omega)]) | exact RX_set hR hO hp (set_no m hm p hp).2.1 (fun i hi => by rw [(set_no m hm p hp).2.2 i hi, hmb i hi, decide_eq_false (show ¬ z = 1 by omega)])⟩) d_O_set_83
      · refine r_ald0 C (pc := 55) d_O_set_55 ?_
        refine gX_O_frame C (pc := 56) hS k_201 d_O_set_56 ?_
        refine gX_F_setProps C (pc := 59) hS k_115 d_O_set_59 ?_
        rw [em]
        refine r_ild3 C (pc := 62) d_O_set_62 ?_
        refine r_ior C (pc := 63) (bi_or _ _) d_O_set_63 ?_
        refine r_goto C (pc := 64) (tgt := 78) d_O_set_64 (by decide) ?_
        refine pX_F_setProps C (pc := 78) hS k_115 d_O_set_78 ?_
        refine r_ild4 C (pc := 81) d_O_set_81 ?_
        exact r_iret C (pc := 83) hQ (⟨by unfold fSet; rw [if_neg (by omega), Int.toNat_natCast, ← hrd]; first | rw [if_pos (by omega)] | rw [if_neg (by omega)], by unfold gSet; rw [if_pos (by omega), Int.toNat_natCast]; first | exact RX_set hR hO hp (set_or m hm p hp).1 (fun i hi => by rw [(set_or m hm p hp).2 i hi, hmb i hi, decide_eq_true (show z = 1 by omega)]) | exact RX_set hR hO hp (set_no m hm p hp).2.1 (fun i hi => by rw [(set_no m hm p hp).2.2 i hi, hmb i hi, decide_eq_false (show ¬ z = 1 by omega)])⟩) d_O_set_83
  · refine r_ldc C (pc := 17) (z := (-900001)) k_230 rfl d_O_set_17 ?_
    exact r_iret C (pc := 19) hQ (⟨by unfold fSet; rw [if_pos (by omega)], by unfold gSet; rw [if_neg (by omega)]; exact hR⟩) d_O_set_19
