set_option maxRecDepth 20000 in
theorem c_M_kind (l : Launch) (E : zE) (M : zM) (S : zS) (hR : RM S M) (hO : ok S) (k w v : Int) (hk : -2147483648 ≤ k ∧ k < 2147483648) (hw : -2147483648 ≤ w ∧ w < 2147483648) (hv : -2147483648 ≤ v ∧ v < 2147483648) : zK l sM E y_M_kind b_M_kind 5 (some .int) 1 25 [.ref (E.2.2 0), .int (iI k), .int (iI w), .int (iI v)] M (zPi (fun r M2 => r = fKind S k w v ∧ RM (gKind S k w v) M2)) := by
  refine zK.of "OldBeamsModel" rfl (by decide) (Nat.le_of_ble_eq_true rfl) ?_
  intro G hS hE hQ hL C
  subst hE
  subst hL
  show VJ G M 0 [some (.ref (G.2.1.2.2 0)), some (.int (iI k)), some (.int (iI w)), some (.int (iI v)), none] []
  have h12 := hO.n
  have hbn : M.1 0 2 = (S.1 0 : Int) := hR.1.1
  refine r_ild1 C (pc := 0) d_M_kind_0 ?_
  refine r_i2l C (pc := 1) (by omega) d_M_kind_1 ?_
  refine r_lconst C (pc := 2) (v := 0) rfl d_M_kind_2 ?_
  refine r_ldc2 C (pc := 3) k_776 d_M_kind_3 ?_
  refine call_M_in C (pc := 6) hS (c_M_in _ _ _ _ (0) (3) (by omega) (by omega) (by omega)) k_777 (by decide) (Nat.le_of_ble_eq_true rfl) rfl d_M_kind_6 (kkI (fun r6 N6 h6 => ?_))
  obtain ⟨rfl, rfl⟩ := h6
  refine r_ifneB C (pc := 9) (tgt := 15) d_M_kind_9 (by decide) (fun c9 => ?_) (fun c9 => ?_)
  · obtain ⟨k, rfl⟩ := Int.eq_ofNat_of_zero_le c9.1
    have hkr := hR.2.1 k (by omega)
    refine r_ild2 C (pc := 15) d_M_kind_15 ?_
    refine r_if_ne C (pc := 16) (tgt := 31) (by omega) d_M_kind_16 (by decide) (fun c16 => ?_) (fun c16 => ?_)
    · refine r_ild2 C (pc := 31) d_M_kind_31 ?_
      refine r_i2l C (pc := 32) (by omega) d_M_kind_32 ?_
      refine r_lconst C (pc := 33) (v := 1) rfl d_M_kind_33 ?_
      refine r_ldc2 C (pc := 34) k_782 d_M_kind_34 ?_
      refine call_M_in C (pc := 37) hS (c_M_in _ _ _ _ (1) (2) (by omega) (by omega) (by omega)) k_777 (by decide) (Nat.le_of_ble_eq_true rfl) rfl d_M_kind_37 (kkI (fun r37 N37 h37 => ?_))
      obtain ⟨rfl, rfl⟩ := h37
      refine r_ifeqB C (pc := 40) (tgt := 55) d_M_kind_40 (by decide) (fun c40 => ?_) (fun c40 => ?_)
      · refine r_ldc C (pc := 55) (z := (-900002)) k_784 rfl d_M_kind_55 ?_
        exact r_iret C (pc := 57) hQ (⟨by unfold fKind; (try simp only [Int.toNat_natCast]); rw [if_neg (by omega), if_pos (by omega)], by unfold gKind; (try simp only [Int.toNat_natCast]); rw [if_neg (by omega)]; exact hR⟩) d_M_kind_57
      · refine r_ild3 C (pc := 43) d_M_kind_43 ?_
        refine r_i2l C (pc := 44) (by omega) d_M_kind_44 ?_
        refine r_lconst C (pc := 45) (v := 0) rfl d_M_kind_45 ?_
        refine r_ldc2 C (pc := 46) k_783 d_M_kind_46 ?_
        refine call_M_in C (pc := 49) hS (c_M_in _ _ _ _ (0) (10) (by omega) (by omega) (by omega)) k_777 (by decide) (Nat.le_of_ble_eq_true rfl) rfl d_M_kind_49 (kkI (fun r49 N49 h49 => ?_))
        obtain ⟨rfl, rfl⟩ := h49
        refine r_ifneB C (pc := 52) (tgt := 58) d_M_kind_52 (by decide) (fun c52 => ?_) (fun c52 => ?_)
        · refine r_ild2 C (pc := 58) d_M_kind_58 ?_
          refine r_if_ne C (pc := 59) (tgt := 80) (by omega) d_M_kind_59 (by decide) (fun c59 => ?_) (fun c59 => ?_)
          · refine r_ald0 C (pc := 80) d_M_kind_80 ?_
            refine gM_M_rot C (pc := 81) hS k_637 d_M_kind_81 ?_
            refine r_iconst C (pc := 84) d_M_kind_84 ?_
            refine r_ild1 C (pc := 85) d_M_kind_85 ?_
            refine r_imul C (pc := 86) d_M_kind_86 ?_
            refine r_ild2 C (pc := 87) d_M_kind_87 ?_
            refine r_iadd C (pc := 88) d_M_kind_88 ?_
            refine r_iconst C (pc := 89) d_M_kind_89 ?_
            refine r_isub C (pc := 90) d_M_kind_90 ?_
            refine M_ialdN C (pc := 91) hS (2 * k + (w.toNat - 1)) (by omega) rfl (by decide) (by omega) (by decide) d_M_kind_91 ?_
            refine r_ist4 C (pc := 92) rfl d_M_kind_92 ?_
            refine r_ald0 C (pc := 94) d_M_kind_94 ?_
            refine gM_M_rot C (pc := 95) hS k_637 d_M_kind_95 ?_
            refine r_iconst C (pc := 98) d_M_kind_98 ?_
            refine r_ild1 C (pc := 99) d_M_kind_99 ?_
            refine r_imul C (pc := 100) d_M_kind_100 ?_
            refine r_ild2 C (pc := 101) d_M_kind_101 ?_
            refine r_iadd C (pc := 102) d_M_kind_102 ?_
            refine r_iconst C (pc := 103) d_M_kind_103 ?_
            refine r_isub C (pc := 104) d_M_kind_104 ?_
            refine r_ild3 C (pc := 105) d_M_kind_105 ?_
            refine M_iastN C (pc := 106) hS (2 * k + (w.toNat - 1)) (by omega) rfl (by decide) (by omega) (by decide)  d_M_kind_106 ?_
            refine r_ild4 C (pc := 107) d_M_kind_107 ?_
            exact r_iret C (pc := 109) hQ (⟨by unfold fKind; (try simp only [Int.toNat_natCast]); rw [if_neg (by omega), if_neg (by omega)]; rcases (show w = 1 ∨ w = 2 by omega) with rfl | rfl; (· exact hkr.2.1); exact hkr.2.2, by unfold gKind; (try simp only [Int.toNat_natCast]); rw [if_pos (by omega)]; rcases (show w = 1 ∨ w = 2 by omega) with rfl | rfl; (· exact RM_kind1 hR hO (by omega)); exact RM_kind2 hR hO (by omega)⟩) d_M_kind_109
          · refine r_ald0 C (pc := 62) d_M_kind_62 ?_
            refine gM_M_grade C (pc := 63) hS k_636 d_M_kind_63 ?_
            refine r_ild1 C (pc := 66) d_M_kind_66 ?_
            refine M_ialdN C (pc := 67) hS (k) (by omega) rfl (by decide) (by omega) (by decide) d_M_kind_67 ?_
            refine r_ist4 C (pc := 68) rfl d_M_kind_68 ?_
            refine r_ald0 C (pc := 70) d_M_kind_70 ?_
            refine gM_M_grade C (pc := 71) hS k_636 d_M_kind_71 ?_
            refine r_ild1 C (pc := 74) d_M_kind_74 ?_
            refine r_ild3 C (pc := 75) d_M_kind_75 ?_
            refine M_iastN C (pc := 76) hS (k) (by omega) rfl (by decide) (by omega) (by decide)  d_M_kind_76 ?_
            refine r_ild4 C (pc := 77) d_M_kind_77 ?_
            exact r_iret C (pc := 79) hQ (⟨by unfold fKind; (try simp only [Int.toNat_natCast]); rw [if_neg (by omega), if_neg (by omega)]; rw [c59]; exact hkr.1, by unfold gKind; (try simp only [Int.toNat_natCast]); rw [if_pos (by omega)]; rw [c59]; exact RM_kind0 hR hO (by omega)⟩) d_M_kind_79
        · refine r_ldc C (pc := 55) (z := (-900002)) k_784 rfl d_M_kind_55 ?_
          exact r_iret C (pc := 57) hQ (⟨by unfold fKind; (try simp only [Int.toNat_natCast]); rw [if_neg (by omega), if_pos (by omega)], by unfold gKind; (try simp only [Int.toNat_natCast]); rw [if_neg (by omega)]; exact hR⟩) d_M_kind_57
    · refine r_ild3 C (pc := 19) d_M_kind_19 ?_
      refine r_i2l C (pc := 20) (by omega) d_M_kind_20 ?_
      refine r_lconst C (pc := 21) (v := 1) rfl d_M_kind_21 ?_
      refine r_ldc2 C (pc := 22) k_781 d_M_kind_22 ?_
      refine call_M_in C (pc := 25) hS (c_M_in _ _ _ _ (1) (999) (by omega) (by omega) (by omega)) k_777 (by decide) (Nat.le_of_ble_eq_true rfl) rfl d_M_kind_25 (kkI (fun r25 N25 h25 => ?_))
      obtain ⟨rfl, rfl⟩ := h25
      refine r_ifneB C (pc := 28) (tgt := 58) d_M_kind_28 (by decide) (fun c28 => ?_) (fun c28 => ?_)
      · refine r_ild2 C (pc := 58) d_M_kind_58 ?_
        refine r_if_ne C (pc := 59) (tgt := 80) (by omega) d_M_kind_59 (by decide) (fun c59 => ?_) (fun c59 => ?_)
        · refine r_ald0 C (pc := 80) d_M_kind_80 ?_
          refine gM_M_rot C (pc := 81) hS k_637 d_M_kind_81 ?_
          refine r_iconst C (pc := 84) d_M_kind_84 ?_
          refine r_ild1 C (pc := 85) d_M_kind_85 ?_
          refine r_imul C (pc := 86) d_M_kind_86 ?_
          refine r_ild2 C (pc := 87) d_M_kind_87 ?_
          refine r_iadd C (pc := 88) d_M_kind_88 ?_
          refine r_iconst C (pc := 89) d_M_kind_89 ?_
          refine r_isub C (pc := 90) d_M_kind_90 ?_
          refine M_ialdN C (pc := 91) hS (2 * k + (w.toNat - 1)) (by omega) rfl (by decide) (by omega) (by decide) d_M_kind_91 ?_
          refine r_ist4 C (pc := 92) rfl d_M_kind_92 ?_
          refine r_ald0 C (pc := 94) d_M_kind_94 ?_
          refine gM_M_rot C (pc := 95) hS k_637 d_M_kind_95 ?_
          refine r_iconst C (pc := 98) d_M_kind_98 ?_
          refine r_ild1 C (pc := 99) d_M_kind_99 ?_
          refine r_imul C (pc := 100) d_M_kind_100 ?_
          refine r_ild2 C (pc := 101) d_M_kind_101 ?_
          refine r_iadd C (pc := 102) d_M_kind_102 ?_
          refine r_iconst C (pc := 103) d_M_kind_103 ?_
          refine r_isub C (pc := 104) d_M_kind_104 ?_
          refine r_ild3 C (pc := 105) d_M_kind_105 ?_
          refine M_iastN C (pc := 106) hS (2 * k + (w.toNat - 1)) (by omega) rfl (by decide) (by omega) (by decide)  d_M_kind_106 ?_
          refine r_ild4 C (pc := 107) d_M_kind_107 ?_
          exact r_iret C (pc := 109) hQ (⟨by unfold fKind; (try simp only [Int.toNat_natCast]); rw [if_neg (by omega), if_neg (by omega)]; rcases (show w = 1 ∨ w = 2 by omega) with rfl | rfl; (· exact hkr.2.1); exact hkr.2.2, by unfold gKind; (try simp only [Int.toNat_natCast]); rw [if_pos (by omega)]; rcases (show w = 1 ∨ w = 2 by omega) with rfl | rfl; (· exact RM_kind1 hR hO (by omega)); exact RM_kind2 hR hO (by omega)⟩) d_M_kind_109
        · refine r_ald0 C (pc := 62) d_M_kind_62 ?_
          refine gM_M_grade C (pc := 63) hS k_636 d_M_kind_63 ?_
          refine r_ild1 C (pc := 66) d_M_kind_66 ?_
          refine M_ialdN C (pc := 67) hS (k) (by omega) rfl (by decide) (by omega) (by decide) d_M_kind_67 ?_
          refine r_ist4 C (pc := 68) rfl d_M_kind_68 ?_
          refine r_ald0 C (pc := 70) d_M_kind_70 ?_
          refine gM_M_grade C (pc := 71) hS k_636 d_M_kind_71 ?_
          refine r_ild1 C (pc := 74) d_M_kind_74 ?_
          refine r_ild3 C (pc := 75) d_M_kind_75 ?_
          refine M_iastN C (pc := 76) hS (k) (by omega) rfl (by decide) (by omega) (by decide)  d_M_kind_76 ?_
          refine r_ild4 C (pc := 77) d_M_kind_77 ?_
          exact r_iret C (pc := 79) hQ (⟨by unfold fKind; (try simp only [Int.toNat_natCast]); rw [if_neg (by omega), if_neg (by omega)]; rw [c59]; exact hkr.1, by unfold gKind; (try simp only [Int.toNat_natCast]); rw [if_pos (by omega)]; rw [c59]; exact RM_kind0 hR hO (by omega)⟩) d_M_kind_79
      · refine r_ild2 C (pc := 31) d_M_kind_31 ?_
        refine r_i2l C (pc := 32) (by omega) d_M_kind_32 ?_
        refine r_lconst C (pc := 33) (v := 1) rfl d_M_kind_33 ?_
        refine r_ldc2 C (pc := 34) k_782 d_M_kind_34 ?_
        refine call_M_in C (pc := 37) hS (c_M_in _ _ _ _ (1) (2) (by omega) (by omega) (by omega)) k_777 (by decide) (Nat.le_of_ble_eq_true rfl) rfl d_M_kind_37 (kkI (fun r37 N37 h37 => ?_))
        obtain ⟨rfl, rfl⟩ := h37
        refine r_ifeqB C (pc := 40) (tgt := 55) d_M_kind_40 (by decide) (fun c40 => ?_) (fun c40 => ?_)
        · refine r_ldc C (pc := 55) (z := (-900002)) k_784 rfl d_M_kind_55 ?_
          exact r_iret C (pc := 57) hQ (⟨by unfold fKind; (try simp only [Int.toNat_natCast]); rw [if_neg (by omega), if_pos (by omega)], by unfold gKind; (try simp only [Int.toNat_natCast]); rw [if_neg (by omega)]; exact hR⟩) d_M_kind_57
        · refine r_ild3 C (pc := 43) d_M_kind_43 ?_
          refine r_i2l C (pc := 44) (by omega) d_M_kind_44 ?_
          refine r_lconst C (pc := 45) (v := 0) rfl d_M_kind_45 ?_
          refine r_ldc2 C (pc := 46) k_783 d_M_kind_46 ?_
          refine call_M_in C (pc := 49) hS (c_M_in _ _ _ _ (0) (10) (by omega) (by omega) (by omega)) k_777 (by decide) (Nat.le_of_ble_eq_true rfl) rfl d_M_kind_49 (kkI (fun r49 N49 h49 => ?_))
          obtain ⟨rfl, rfl⟩ := h49
          refine r_ifneB C (pc := 52) (tgt := 58) d_M_kind_52 (by decide) (fun c52 => ?_) (fun c52 => ?_)
          · refine r_ild2 C (pc := 58) d_M_kind_58 ?_
            refine r_if_ne C (pc := 59) (tgt := 80) (by omega) d_M_kind_59 (by decide) (fun c59 => ?_) (fun c59 => ?_)
            · refine r_ald0 C (pc := 80) d_M_kind_80 ?_
              refine gM_M_rot C (pc := 81) hS k_637 d_M_kind_81 ?_
              refine r_iconst C (pc := 84) d_M_kind_84 ?_
              refine r_ild1 C (pc := 85) d_M_kind_85 ?_
              refine r_imul C (pc := 86) d_M_kind_86 ?_
              refine r_ild2 C (pc := 87) d_M_kind_87 ?_
              refine r_iadd C (pc := 88) d_M_kind_88 ?_
              refine r_iconst C (pc := 89) d_M_kind_89 ?_
              refine r_isub C (pc := 90) d_M_kind_90 ?_
              refine M_ialdN C (pc := 91) hS (2 * k + (w.toNat - 1)) (by omega) rfl (by decide) (by omega) (by decide) d_M_kind_91 ?_
              refine r_ist4 C (pc := 92) rfl d_M_kind_92 ?_
              refine r_ald0 C (pc := 94) d_M_kind_94 ?_
              refine gM_M_rot C (pc := 95) hS k_637 d_M_kind_95 ?_
              refine r_iconst C (pc := 98) d_M_kind_98 ?_
              refine r_ild1 C (pc := 99) d_M_kind_99 ?_
              refine r_imul C (pc := 100) d_M_kind_100 ?_
              refine r_ild2 C (pc := 101) d_M_kind_101 ?_
              refine r_iadd C (pc := 102) d_M_kind_102 ?_
              refine r_iconst C (pc := 103) d_M_kind_103 ?_
              refine r_isub C (pc := 104) d_M_kind_104 ?_
              refine r_ild3 C (pc := 105) d_M_kind_105 ?_
              refine M_iastN C (pc := 106) hS (2 * k + (w.toNat - 1)) (by omega) rfl (by decide) (by omega) (by decide)  d_M_kind_106 ?_
              refine r_ild4 C (pc := 107) d_M_kind_107 ?_
              exact r_iret C (pc := 109) hQ (⟨by unfold fKind; (try simp only [Int.toNat_natCast]); rw [if_neg (by omega), if_neg (by omega)]; rcases (show w = 1 ∨ w = 2 by omega) with rfl | rfl; (· exact hkr.2.1); exact hkr.2.2, by unfold gKind; (try simp only [Int.toNat_natCast]); rw [if_pos (by omega)]; rcases (show w = 1 ∨ w = 2 by omega) with rfl | rfl; (· exact RM_kind1 hR hO (by omega)); exact RM_kind2 hR hO (by omega)⟩) d_M_kind_109
            · refine r_ald0 C (pc := 62) d_M_kind_62 ?_
              refine gM_M_grade C (pc := 63) hS k_636 d_M_kind_63 ?_
              refine r_ild1 C (pc := 66) d_M_kind_66 ?_
              refine M_ialdN C (pc := 67) hS (k) (by omega) rfl (by decide) (by omega) (by decide) d_M_kind_67 ?_
              refine r_ist4 C (pc := 68) rfl d_M_kind_68 ?_
              refine r_ald0 C (pc := 70) d_M_kind_70 ?_
              refine gM_M_grade C (pc := 71) hS k_636 d_M_kind_71 ?_
              refine r_ild1 C (pc := 74) d_M_kind_74 ?_
              refine r_ild3 C (pc := 75) d_M_kind_75 ?_
              refine M_iastN C (pc := 76) hS (k) (by omega) rfl (by decide) (by omega) (by decide)  d_M_kind_76 ?_
              refine r_ild4 C (pc := 77) d_M_kind_77 ?_
              exact r_iret C (pc := 79) hQ (⟨by unfold fKind; (try simp only [Int.toNat_natCast]); rw [if_neg (by omega), if_neg (by omega)]; rw [c59]; exact hkr.1, by unfold gKind; (try simp only [Int.toNat_natCast]); rw [if_pos (by omega)]; rw [c59]; exact RM_kind0 hR hO (by omega)⟩) d_M_kind_79
          · refine r_ldc C (pc := 55) (z := (-900002)) k_784 rfl d_M_kind_55 ?_
            exact r_iret C (pc := 57) hQ (⟨by unfold fKind; (try simp only [Int.toNat_natCast]); rw [if_neg (by omega), if_pos (by omega)], by unfold gKind; (try simp only [Int.toNat_natCast]); rw [if_neg (by omega)]; exact hR⟩) d_M_kind_57
  · refine r_ldc C (pc := 12) (z := (-900001)) k_780 rfl d_M_kind_12 ?_
    exact r_iret C (pc := 14) hQ (⟨by unfold fKind; (try simp only [Int.toNat_natCast]); rw [if_pos (by omega)], by unfold gKind; (try simp only [Int.toNat_natCast]); rw [if_neg (by omega)]; exact hR⟩) d_M_kind_14
set_option maxRecDepth 20000 in
theorem c_M_wet (l : Launch) (E : zE) (M : zM) (S : zS) (hR : RM S M) (hO : ok S) (b z : Int) (hb : -2147483648 ≤ b ∧ b < 2147483648) (hz : z = 0 ∨ z = 1) : zK l sM E y_M_wet b_M_wet 4 (some .int) 2 46 [.ref (E.2.2 0), .int (iI b), .int (iI z)] M (zPi (fun r M2 => r = fWet S b ∧ RM (gWet S b z) M2)) := by
  refine zK.of "OldBeamsModel" rfl (by decide) (Nat.le_of_ble_eq_true rfl) ?_
  intro G hS hE hQ hL C
  subst hE
  subst hL
  show VJ G M 0 [some (.ref (G.2.1.2.2 0)), some (.int (iI b)), some (.int (iI z)), none] []
  have h12 := hO.n
  have hbn : M.1 0 2 = (S.1 0 : Int) := hR.1.1
  refine r_ald0 C (pc := 0) d_M_wet_0 ?_
  refine r_ild1 C (pc := 1) d_M_wet_1 ?_
  refine call_M_isBeam C (pc := 2) hS (c_M_isBeam _ _ M S hR hO _ (by omega)) k_801 (by decide) (Nat.le_of_ble_eq_true rfl) rfl d_M_wet_2 (kkI (fun r2 N2 h2 => ?_))
  obtain ⟨rfl, rfl⟩ := h2
  refine r_ifneB C (pc := 5) (tgt := 11) d_M_wet_5 (by decide) (fun c5 => ?_) (fun c5 => ?_)
  · obtain ⟨b, rfl⟩ := Int.eq_ofNat_of_zero_le c5.1
    have hb : b < S.1 0 := by omega
    have hwt := (hR.2.2.2.1 b (by omega)).1
    have hwo := (hO.2.2.2.1 b (by omega)).1
    refine r_ald0 C (pc := 11) d_M_wet_11 ?_
    refine gM_M_isWet C (pc := 12) hS k_643 d_M_wet_12 ?_
    refine r_ild1 C (pc := 15) d_M_wet_15 ?_
    refine M_baldN C (pc := 16) hS (b) (by omega) rfl (by decide) (by omega) (by decide) d_M_wet_16 ?_
    rw [hwt]
    refine r_if_eq C (pc := 17) (tgt := 24) (by omega) d_M_wet_17 (by decide) (fun c17 => ?_) (fun c17 => ?_)
    · refine r_iconst C (pc := 24) d_M_wet_24 ?_
      refine r_ist3 C (pc := 25) rfl d_M_wet_25 ?_
      refine r_ald0 C (pc := 26) d_M_wet_26 ?_
      refine gM_M_isWet C (pc := 27) hS k_643 d_M_wet_27 ?_
      refine r_ild1 C (pc := 30) d_M_wet_30 ?_
      refine r_ild2 C (pc := 31) d_M_wet_31 ?_
      refine M_bastN C (pc := 32) hS (b) (by omega) rfl (by decide) (by omega) (by decide) (by first | exact Or.inl rfl | exact Or.inr rfl | exact zb_01 _ | assumption)  d_M_wet_32 ?_
      refine r_ild3 C (pc := 33) d_M_wet_33 ?_
      exact r_iret C (pc := 34) hQ (⟨by unfold fWet; rw [if_neg (by omega), Int.toNat_natCast]; omega, by unfold gWet; rw [if_pos (by omega), Int.toNat_natCast]; exact RM_wet hR hO (by omega)⟩) d_M_wet_34
    · refine r_iconst C (pc := 20) d_M_wet_20 ?_
      refine r_goto C (pc := 21) (tgt := 25) d_M_wet_21 (by decide) ?_
      refine r_ist3 C (pc := 25) rfl d_M_wet_25 ?_
      refine r_ald0 C (pc := 26) d_M_wet_26 ?_
      refine gM_M_isWet C (pc := 27) hS k_643 d_M_wet_27 ?_
      refine r_ild1 C (pc := 30) d_M_wet_30 ?_
      refine r_ild2 C (pc := 31) d_M_wet_31 ?_
      refine M_bastN C (pc := 32) hS (b) (by omega) rfl (by decide) (by omega) (by decide) (by first | exact Or.inl rfl | exact Or.inr rfl | exact zb_01 _ | assumption)  d_M_wet_32 ?_
      refine r_ild3 C (pc := 33) d_M_wet_33 ?_
      exact r_iret C (pc := 34) hQ (⟨by unfold fWet; rw [if_neg (by omega), Int.toNat_natCast]; omega, by unfold gWet; rw [if_pos (by omega), Int.toNat_natCast]; exact RM_wet hR hO (by omega)⟩) d_M_wet_34
  · refine r_ldc C (pc := 8) (z := (-900001)) k_780 rfl d_M_wet_8 ?_
    exact r_iret C (pc := 10) hQ (⟨by unfold fWet; (try simp only [Int.toNat_natCast]); rw [if_pos (by omega)], by unfold gWet; (try simp only [Int.toNat_natCast]); rw [if_neg (by omega)]; exact hR⟩) d_M_wet_10
set_option maxRecDepth 20000 in
theorem c_M_load (l : Launch) (E : zE) (M : zM) (S : zS) (hR : RM S M) (hO : ok S) (b p w : Int) (hb : -2147483648 ≤ b ∧ b < 2147483648) (hp : -2147483648 ≤ p ∧ p < 2147483648) (hw : -2147483648 ≤ w ∧ w < 2147483648) : zK l sM E y_M_load b_M_load 4 (some .int) 2 46 [.ref (E.2.2 0), .int (iI b), .int (iI p), .int (iI w)] M (zPi (fun r M2 => r = fLoad S b p w ∧ RM (gLoad S b p w) M2)) := by
  refine zK.of "OldBeamsModel" rfl (by decide) (Nat.le_of_ble_eq_true rfl) ?_
  intro G hS hE hQ hL C
  subst hE
  subst hL
  show VJ G M 0 [some (.ref (G.2.1.2.2 0)), some (.int (iI b)), some (.int (iI p)), some (.int (iI w))] []
  have h12 := hO.n
  have hbn : M.1 0 2 = (S.1 0 : Int) := hR.1.1
  have hcap := hO.1
  refine r_ald0 C (pc := 0) d_M_load_0 ?_
  refine r_ild1 C (pc := 1) d_M_load_1 ?_
  refine call_M_isBeam C (pc := 2) hS (c_M_isBeam _ _ M S hR hO _ (by omega)) k_801 (by decide) (Nat.le_of_ble_eq_true rfl) rfl d_M_load_2 (kkI (fun r2 N2 h2 => ?_))
  obtain ⟨rfl, rfl⟩ := h2
  refine r_ifneB C (pc := 5) (tgt := 11) d_M_load_5 (by decide) (fun c5 => ?_) (fun c5 => ?_)
  · obtain ⟨b, rfl⟩ := Int.eq_ofNat_of_zero_le c5.1
    have hb : b < S.1 0 := by omega
    have hl6 := (hO.2.2.1 b hb).2.1
    have hlr := (hR.2.2.1 b hb).1.2.1
    refine r_ild2 C (pc := 11) d_M_load_11 ?_
    refine r_i2l C (pc := 12) (by omega) d_M_load_12 ?_
    refine r_lconst C (pc := 13) (v := 0) rfl d_M_load_13 ?_
    refine r_ald0 C (pc := 14) d_M_load_14 ?_
    refine gM_M_length C (pc := 15) hS k_640 d_M_load_15 ?_
    refine r_ild1 C (pc := 18) d_M_load_18 ?_
    refine M_ialdN C (pc := 19) hS (b) (by omega) rfl (by decide) (by omega) (by decide) d_M_load_19 ?_
    rw [hlr]
    refine r_i2l C (pc := 20) (by omega) d_M_load_20 ?_
    refine call_M_in C (pc := 21) hS (c_M_in _ _ _ _ (0) _ (by omega) (by omega) (by omega)) k_777 (by decide) (Nat.le_of_ble_eq_true rfl) rfl d_M_load_21 (kkI (fun r21 N21 h21 => ?_))
    obtain ⟨rfl, rfl⟩ := h21
    refine r_ifeqB C (pc := 24) (tgt := 39) d_M_load_24 (by decide) (fun c24 => ?_) (fun c24 => ?_)
    · refine r_ldc C (pc := 39) (z := (-900002)) k_784 rfl d_M_load_39 ?_
      exact r_iret C (pc := 41) hQ (⟨by unfold fLoad; (try simp only [Int.toNat_natCast]); rw [if_neg (by omega), if_pos (by omega)], by unfold gLoad; (try simp only [Int.toNat_natCast]); rw [if_neg (by omega)]; exact hR⟩) d_M_load_41
    · obtain ⟨p, rfl⟩ := Int.eq_ofNat_of_zero_le c24.1
      refine r_ild3 C (pc := 27) d_M_load_27 ?_
      refine r_i2l C (pc := 28) (by omega) d_M_load_28 ?_
      refine r_lconst C (pc := 29) (v := 1) rfl d_M_load_29 ?_
      refine r_ldc2 C (pc := 30) k_853 d_M_load_30 ?_
      refine call_M_in C (pc := 33) hS (c_M_in _ _ _ _ (1) (9999) (by omega) (by omega) (by omega)) k_777 (by decide) (Nat.le_of_ble_eq_true rfl) rfl d_M_load_33 (kkI (fun r33 N33 h33 => ?_))
      obtain ⟨rfl, rfl⟩ := h33
      refine r_ifneB C (pc := 36) (tgt := 42) d_M_load_36 (by decide) (fun c36 => ?_) (fun c36 => ?_)
      · refine r_ald0 C (pc := 42) d_M_load_42 ?_
        refine gM_M_loads C (pc := 43) hS k_648 d_M_load_43 ?_
        rw [hR.1.2.1]
        refine r_bipush C (pc := 46) (n := 40) rfl d_M_load_46 ?_
        refine r_icmp_ne C (pc := 48) (tgt := 54) (by omega) (by omega) d_M_load_48 (by decide) (fun c48 => ?_) (fun c48 => ?_)
        · refine r_ald0 C (pc := 54) d_M_load_54 ?_
          refine gM_M_loadBeam C (pc := 55) hS k_649 d_M_load_55 ?_
          refine r_ald0 C (pc := 58) d_M_load_58 ?_
          refine gM_M_loads C (pc := 59) hS k_648 d_M_load_59 ?_
          rw [hR.1.2.1]
          refine r_ild1 C (pc := 62) d_M_load_62 ?_
          refine M_iastN C (pc := 63) hS (S.1 1) (by omega) rfl (by decide) (by omega) (by decide)  d_M_load_63 ?_
          refine r_ald0 C (pc := 64) d_M_load_64 ?_
          refine gM_M_loadPlace C (pc := 65) hS k_650 d_M_load_65 ?_
          refine r_ald0 C (pc := 68) d_M_load_68 ?_
          refine gM_M_loads C (pc := 69) hS k_648 d_M_load_69 ?_
          rw [zI_o (by omega), hR.1.2.1]
          refine r_ild2 C (pc := 72) d_M_load_72 ?_
          refine M_iastN C (pc := 73) hS (S.1 1) (by omega) rfl (by decide) (by omega) (by decide)  d_M_load_73 ?_
          refine r_ald0 C (pc := 74) d_M_load_74 ?_
          refine gM_M_loadWeight C (pc := 75) hS k_651 d_M_load_75 ?_
          refine r_ald0 C (pc := 78) d_M_load_78 ?_
          refine gM_M_loads C (pc := 79) hS k_648 d_M_load_79 ?_
          rw [zI_o (by omega), zI_o (by omega), hR.1.2.1]
          refine r_ild3 C (pc := 82) d_M_load_82 ?_
          refine M_iastN C (pc := 83) hS (S.1 1) (by omega) rfl (by decide) (by omega) (by decide)  d_M_load_83 ?_
          refine r_ald0 C (pc := 84) d_M_load_84 ?_
          refine r_dup C (pc := 85) rfl d_M_load_85 ?_
          refine gM_M_loads C (pc := 86) hS k_648 d_M_load_86 ?_
          rw [zI_o (by omega), zI_o (by omega), zI_o (by omega), hR.1.2.1]
          refine r_iconst C (pc := 89) d_M_load_89 ?_
          refine r_iadd C (pc := 90) d_M_load_90 ?_
          refine pM_M_loads C (pc := 91) hS k_648 d_M_load_91 ?_
          refine r_ald0 C (pc := 94) d_M_load_94 ?_
          refine gM_M_loads C (pc := 95) hS k_648 d_M_load_95 ?_
          rw [zI_same]
          refine r_iconst C (pc := 98) d_M_load_98 ?_
          refine r_isub C (pc := 99) d_M_load_99 ?_
          exact r_iret C (pc := 100) hQ (⟨by unfold fLoad; (try simp only [Int.toNat_natCast]); rw [if_neg (by omega), if_neg (by omega), if_neg (by omega)]; omega, by unfold gLoad; (try simp only [Int.toNat_natCast]); rw [if_pos (by omega)]; exact RM_load hR hO (by omega)⟩) d_M_load_100
        · refine r_ldc C (pc := 51) (z := (-900004)) k_795 rfl d_M_load_51 ?_
          exact r_iret C (pc := 53) hQ (⟨by unfold fLoad; (try simp only [Int.toNat_natCast]); rw [if_neg (by omega), if_neg (by omega), if_pos (by omega)], by unfold gLoad; (try simp only [Int.toNat_natCast]); rw [if_neg (by omega)]; exact hR⟩) d_M_load_53
      · refine r_ldc C (pc := 39) (z := (-900002)) k_784 rfl d_M_load_39 ?_
        exact r_iret C (pc := 41) hQ (⟨by unfold fLoad; (try simp only [Int.toNat_natCast]); rw [if_neg (by omega), if_pos (by omega)], by unfold gLoad; (try simp only [Int.toNat_natCast]); rw [if_neg (by omega)]; exact hR⟩) d_M_load_41
  · refine r_ldc C (pc := 8) (z := (-900001)) k_780 rfl d_M_load_8 ?_
    exact r_iret C (pc := 10) hQ (⟨by unfold fLoad; (try simp only [Int.toNat_natCast]); rw [if_pos (by omega)], by unfold gLoad; (try simp only [Int.toNat_natCast]); rw [if_neg (by omega)]; exact hR⟩) d_M_load_10
set_option maxRecDepth 20000 in
theorem c_M_prop (l : Launch) (E : zE) (M : zM) (S : zS) (hR : RM S M) (hO : ok S) (b p w : Int) (hb : -2147483648 ≤ b ∧ b < 2147483648) (hp : -2147483648 ≤ p ∧ p < 2147483648) (hw : -2147483648 ≤ w ∧ w < 2147483648) : zK l sM E y_M_prop b_M_prop 4 (some .int) 2 46 [.ref (E.2.2 0), .int (iI b), .int (iI p), .int (iI w)] M (zPi (fun r M2 => r = fProp S b p w ∧ RM (gProp S b p w) M2)) := by
  refine zK.of "OldBeamsModel" rfl (by decide) (Nat.le_of_ble_eq_true rfl) ?_
  intro G hS hE hQ hL C
  subst hE
  subst hL
  show VJ G M 0 [some (.ref (G.2.1.2.2 0)), some (.int (iI b)), some (.int (iI p)), some (.int (iI w))] []
  have h12 := hO.n
  have hbn : M.1 0 2 = (S.1 0 : Int) := hR.1.1
  have hcap := hO.1
  refine r_ald0 C (pc := 0) d_M_prop_0 ?_
  refine r_ild1 C (pc := 1) d_M_prop_1 ?_
  refine call_M_isBeam C (pc := 2) hS (c_M_isBeam _ _ M S hR hO _ (by omega)) k_801 (by decide) (Nat.le_of_ble_eq_true rfl) rfl d_M_prop_2 (kkI (fun r2 N2 h2 => ?_))
  obtain ⟨rfl, rfl⟩ := h2
  refine r_ifneB C (pc := 5) (tgt := 11) d_M_prop_5 (by decide) (fun c5 => ?_) (fun c5 => ?_)
  · obtain ⟨b, rfl⟩ := Int.eq_ofNat_of_zero_le c5.1
    have hb : b < S.1 0 := by omega
    have hl6 := (hO.2.2.1 b hb).2.1
    have hlr := (hR.2.2.1 b hb).1.2.1
    refine r_ild2 C (pc := 11) d_M_prop_11 ?_
    refine r_i2l C (pc := 12) (by omega) d_M_prop_12 ?_
    refine r_lconst C (pc := 13) (v := 0) rfl d_M_prop_13 ?_
    refine r_ald0 C (pc := 14) d_M_prop_14 ?_
    refine gM_M_length C (pc := 15) hS k_640 d_M_prop_15 ?_
    refine r_ild1 C (pc := 18) d_M_prop_18 ?_
    refine M_ialdN C (pc := 19) hS (b) (by omega) rfl (by decide) (by omega) (by decide) d_M_prop_19 ?_
    rw [hlr]
    refine r_i2l C (pc := 20) (by omega) d_M_prop_20 ?_
    refine call_M_in C (pc := 21) hS (c_M_in _ _ _ _ (0) _ (by omega) (by omega) (by omega)) k_777 (by decide) (Nat.le_of_ble_eq_true rfl) rfl d_M_prop_21 (kkI (fun r21 N21 h21 => ?_))
    obtain ⟨rfl, rfl⟩ := h21
    refine r_ifeqB C (pc := 24) (tgt := 39) d_M_prop_24 (by decide) (fun c24 => ?_) (fun c24 => ?_)
    · refine r_ldc C (pc := 39) (z := (-900002)) k_784 rfl d_M_prop_39 ?_
      exact r_iret C (pc := 41) hQ (⟨by unfold fProp; (try simp only [Int.toNat_natCast]); rw [if_neg (by omega), if_pos (by omega)], by unfold gProp; (try simp only [Int.toNat_natCast]); rw [if_neg (by omega)]; exact hR⟩) d_M_prop_41
    · obtain ⟨p, rfl⟩ := Int.eq_ofNat_of_zero_le c24.1
      refine r_ild3 C (pc := 27) d_M_prop_27 ?_
      refine r_i2l C (pc := 28) (by omega) d_M_prop_28 ?_
      refine r_lconst C (pc := 29) (v := 1) rfl d_M_prop_29 ?_
      refine r_ldc2 C (pc := 30) k_853 d_M_prop_30 ?_
      refine call_M_in C (pc := 33) hS (c_M_in _ _ _ _ (1) (9999) (by omega) (by omega) (by omega)) k_777 (by decide) (Nat.le_of_ble_eq_true rfl) rfl d_M_prop_33 (kkI (fun r33 N33 h33 => ?_))
      obtain ⟨rfl, rfl⟩ := h33
      refine r_ifneB C (pc := 36) (tgt := 42) d_M_prop_36 (by decide) (fun c36 => ?_) (fun c36 => ?_)
      · refine r_ald0 C (pc := 42) d_M_prop_42 ?_
        refine gM_M_props C (pc := 43) hS k_653 d_M_prop_43 ?_
        rw [hR.1.2.2.2]
        refine r_bipush C (pc := 46) (n := 8) rfl d_M_prop_46 ?_
        refine r_icmp_ne C (pc := 48) (tgt := 54) (by omega) (by omega) d_M_prop_48 (by decide) (fun c48 => ?_) (fun c48 => ?_)
        · refine r_ald0 C (pc := 54) d_M_prop_54 ?_
          refine gM_M_propBeam C (pc := 55) hS k_654 d_M_prop_55 ?_
          refine r_ald0 C (pc := 58) d_M_prop_58 ?_
          refine gM_M_props C (pc := 59) hS k_653 d_M_prop_59 ?_
          rw [hR.1.2.2.2]
          refine r_ild1 C (pc := 62) d_M_prop_62 ?_
          refine M_iastN C (pc := 63) hS (S.1 3) (by omega) rfl (by decide) (by omega) (by decide)  d_M_prop_63 ?_
          refine r_ald0 C (pc := 64) d_M_prop_64 ?_
          refine gM_M_propPlace C (pc := 65) hS k_655 d_M_prop_65 ?_
          refine r_ald0 C (pc := 68) d_M_prop_68 ?_
          refine gM_M_props C (pc := 69) hS k_653 d_M_prop_69 ?_
          rw [zI_o (by omega), hR.1.2.2.2]
          refine r_ild2 C (pc := 72) d_M_prop_72 ?_
          refine M_iastN C (pc := 73) hS (S.1 3) (by omega) rfl (by decide) (by omega) (by decide)  d_M_prop_73 ?_
          refine r_ald0 C (pc := 74) d_M_prop_74 ?_
          refine gM_M_propPush C (pc := 75) hS k_656 d_M_prop_75 ?_
          refine r_ald0 C (pc := 78) d_M_prop_78 ?_
          refine gM_M_props C (pc := 79) hS k_653 d_M_prop_79 ?_
          rw [zI_o (by omega), zI_o (by omega), hR.1.2.2.2]
          refine r_ild3 C (pc := 82) d_M_prop_82 ?_
          refine M_iastN C (pc := 83) hS (S.1 3) (by omega) rfl (by decide) (by omega) (by decide)  d_M_prop_83 ?_
          refine r_ald0 C (pc := 84) d_M_prop_84 ?_
          refine r_dup C (pc := 85) rfl d_M_prop_85 ?_
          refine gM_M_props C (pc := 86) hS k_653 d_M_prop_86 ?_
          rw [zI_o (by omega), zI_o (by omega), zI_o (by omega), hR.1.2.2.2]
          refine r_iconst C (pc := 89) d_M_prop_89 ?_
          refine r_iadd C (pc := 90) d_M_prop_90 ?_
          refine pM_M_props C (pc := 91) hS k_653 d_M_prop_91 ?_
          refine r_ald0 C (pc := 94) d_M_prop_94 ?_
          refine gM_M_props C (pc := 95) hS k_653 d_M_prop_95 ?_
          rw [zI_same]
          refine r_iconst C (pc := 98) d_M_prop_98 ?_
          refine r_isub C (pc := 99) d_M_prop_99 ?_
          exact r_iret C (pc := 100) hQ (⟨by unfold fProp; (try simp only [Int.toNat_natCast]); rw [if_neg (by omega), if_neg (by omega), if_neg (by omega)]; omega, by unfold gProp; (try simp only [Int.toNat_natCast]); rw [if_pos (by omega)]; exact RM_prop hR hO (by omega)⟩) d_M_prop_100
        · refine r_ldc C (pc := 51) (z := (-900004)) k_795 rfl d_M_prop_51 ?_
          exact r_iret C (pc := 53) hQ (⟨by unfold fProp; (try simp only [Int.toNat_natCast]); rw [if_neg (by omega), if_neg (by omega), if_pos (by omega)], by unfold gProp; (try simp only [Int.toNat_natCast]); rw [if_neg (by omega)]; exact hR⟩) d_M_prop_53
      · refine r_ldc C (pc := 39) (z := (-900002)) k_784 rfl d_M_prop_39 ?_
        exact r_iret C (pc := 41) hQ (⟨by unfold fProp; (try simp only [Int.toNat_natCast]); rw [if_neg (by omega), if_pos (by omega)], by unfold gProp; (try simp only [Int.toNat_natCast]); rw [if_neg (by omega)]; exact hR⟩) d_M_prop_41
  · refine r_ldc C (pc := 8) (z := (-900001)) k_780 rfl d_M_prop_8 ?_
    exact r_iret C (pc := 10) hQ (⟨by unfold fProp; (try simp only [Int.toNat_natCast]); rw [if_pos (by omega)], by unfold gProp; (try simp only [Int.toNat_natCast]); rw [if_neg (by omega)]; exact hR⟩) d_M_prop_10
set_option maxRecDepth 20000 in
theorem c_M_takeOff (l : Launch) (E : zE) (M : zM) (S : zS) (hR : RM S M) (hO : ok S) (w : Int) (hw : -2147483648 ≤ w ∧ w < 2147483648) : zK l sM E y_M_takeOff b_M_takeOff 2 (some .int) 1 25 [.ref (E.2.2 0), .int (iI w)] M (zPi (fun r M2 => r = fOff S w ∧ RM (gOff S w) M2)) := by
  refine zK.of "OldBeamsModel" rfl (by decide) (Nat.le_of_ble_eq_true rfl) ?_
  intro G hS hE hQ hL C
  subst hE
  subst hL
  show VJ G M 0 [some (.ref (G.2.1.2.2 0)), some (.int (iI w))] []
  have h12 := hO.n
  have hbn : M.1 0 2 = (S.1 0 : Int) := hR.1.1
  have hcap := hO.1
  refine r_ild1 C (pc := 0) d_M_takeOff_0 ?_
  refine r_i2l C (pc := 1) (by omega) d_M_takeOff_1 ?_
  refine r_lconst C (pc := 2) (v := 0) rfl d_M_takeOff_2 ?_
  refine r_ald0 C (pc := 3) d_M_takeOff_3 ?_
  refine gM_M_loads C (pc := 4) hS k_648 d_M_takeOff_4 ?_
  rw [hR.1.2.1]
  refine r_iconst C (pc := 7) d_M_takeOff_7 ?_
  refine r_isub C (pc := 8) d_M_takeOff_8 ?_
  refine r_i2l C (pc := 9) (by omega) d_M_takeOff_9 ?_
  refine call_M_in C (pc := 10) hS (c_M_in _ _ _ _ (0) _ (by omega) (by omega) (by omega)) k_777 (by decide) (Nat.le_of_ble_eq_true rfl) rfl d_M_takeOff_10 (kkI (fun r10 N10 h10 => ?_))
  obtain ⟨rfl, rfl⟩ := h10
  refine r_ifneB C (pc := 13) (tgt := 19) d_M_takeOff_13 (by decide) (fun c13 => ?_) (fun c13 => ?_)
  · obtain ⟨w, rfl⟩ := Int.eq_ofNat_of_zero_le c13.1
    have hw : w < S.1 1 := by omega
    have hlo := hO.2.2.2.2.2.1 w hw
    have hlr := hR.2.2.2.2.1 w hw
    have hro : M.1 15 w = 1 - S.2 6 w 3 := by rw [hR.2.2.2.2.2.1 w (by omega), if_pos hw]
    refine r_ald0 C (pc := 19) d_M_takeOff_19 ?_
    refine gM_M_isOff C (pc := 20) hS k_652 d_M_takeOff_20 ?_
    refine r_ild1 C (pc := 23) d_M_takeOff_23 ?_
    refine M_baldN C (pc := 24) hS (w) (by omega) rfl (by decide) (by omega) (by decide) d_M_takeOff_24 ?_
    rw [hro]
    refine r_if_eq C (pc := 25) (tgt := 31) (by omega) d_M_takeOff_25 (by decide) (fun c25 => ?_) (fun c25 => ?_)
    · refine r_ald0 C (pc := 31) d_M_takeOff_31 ?_
      refine gM_M_isOff C (pc := 32) hS k_652 d_M_takeOff_32 ?_
      refine r_ild1 C (pc := 35) d_M_takeOff_35 ?_
      refine r_iconst C (pc := 36) d_M_takeOff_36 ?_
      refine M_bastN C (pc := 37) hS (w) (by omega) rfl (by decide) (by omega) (by decide) (by first | exact Or.inl rfl | exact Or.inr rfl | exact zb_01 _ | assumption)  d_M_takeOff_37 ?_
      refine r_ald0 C (pc := 38) d_M_takeOff_38 ?_
      refine gM_M_loadWeight C (pc := 39) hS k_651 d_M_takeOff_39 ?_
      refine r_ild1 C (pc := 42) d_M_takeOff_42 ?_
      refine M_ialdN C (pc := 43) hS (w) (by omega) rfl (by decide) (by omega) (by decide) d_M_takeOff_43 ?_
      exact r_iret C (pc := 44) hQ (⟨by unfold fOff; rw [if_neg (by omega), Int.toNat_natCast, if_neg (by omega), zI_o (by omega)]; exact hlr.2.2, by unfold gOff; rw [Int.toNat_natCast, if_pos (by omega)]; exact RM_off hR hO hw⟩) d_M_takeOff_44
    · refine r_ldc C (pc := 28) (z := (-900003)) k_805 rfl d_M_takeOff_28 ?_
      exact r_iret C (pc := 30) hQ (⟨by unfold fOff; rw [if_neg (by omega), Int.toNat_natCast, if_pos (by omega)], by unfold gOff; rw [Int.toNat_natCast, if_neg (by omega)]; exact hR⟩) d_M_takeOff_30
  · refine r_ldc C (pc := 16) (z := (-900001)) k_780 rfl d_M_takeOff_16 ?_
    exact r_iret C (pc := 18) hQ (⟨by unfold fOff; (try simp only [Int.toNat_natCast]); rw [if_pos (by omega)], by unfold gOff; (try simp only [Int.toNat_natCast]); rw [if_neg (by omega)]; exact hR⟩) d_M_takeOff_18
set_option maxRecDepth 20000 in
theorem c_M_set (l : Launch) (E : zE) (M : zM) (S : zS) (hR : RM S M) (hO : ok S) (p z : Int) (hp : -2147483648 ≤ p ∧ p < 2147483648) (hz : z = 0 ∨ z = 1) : zK l sM E y_M_set b_M_set 4 (some .int) 1 25 [.ref (E.2.2 0), .int (iI p), .int (iI z)] M (zPi (fun r M2 => r = fSet S p ∧ RM (gSet S p z) M2)) := by
  refine zK.of "OldBeamsModel" rfl (by decide) (Nat.le_of_ble_eq_true rfl) ?_
  intro G hS hE hQ hL C
  subst hE
  subst hL
  show VJ G M 0 [some (.ref (G.2.1.2.2 0)), some (.int (iI p)), some (.int (iI z)), none] []
  have h12 := hO.n
  have hbn : M.1 0 2 = (S.1 0 : Int) := hR.1.1
  have hcap := hO.1
  refine r_ild1 C (pc := 0) d_M_set_0 ?_
  refine r_i2l C (pc := 1) (by omega) d_M_set_1 ?_
  refine r_lconst C (pc := 2) (v := 0) rfl d_M_set_2 ?_
  refine r_ald0 C (pc := 3) d_M_set_3 ?_
  refine gM_M_props C (pc := 4) hS k_653 d_M_set_4 ?_
  rw [hR.1.2.2.2]
  refine r_iconst C (pc := 7) d_M_set_7 ?_
  refine r_isub C (pc := 8) d_M_set_8 ?_
  refine r_i2l C (pc := 9) (by omega) d_M_set_9 ?_
  refine call_M_in C (pc := 10) hS (c_M_in _ _ _ _ (0) _ (by omega) (by omega) (by omega)) k_777 (by decide) (Nat.le_of_ble_eq_true rfl) rfl d_M_set_10 (kkI (fun r10 N10 h10 => ?_))
  obtain ⟨rfl, rfl⟩ := h10
  refine r_ifneB C (pc := 13) (tgt := 19) d_M_set_13 (by decide) (fun c13 => ?_) (fun c13 => ?_)
  · obtain ⟨p, rfl⟩ := Int.eq_ofNat_of_zero_le c13.1
    have hps := (hO.2.2.2.2.2.2.2.1 p (by omega)).1
    refine r_ald0 C (pc := 19) d_M_set_19 ?_
    refine gM_M_isSet C (pc := 20) hS k_657 d_M_set_20 ?_
    refine r_ild1 C (pc := 23) d_M_set_23 ?_
    refine M_baldN C (pc := 24) hS (p) (by omega) rfl (by decide) (by omega) (by decide) d_M_set_24 ?_
    rw [hR.2.2.2.2.2.2.2.1 p (by omega)]
    refine r_if_eq C (pc := 25) (tgt := 32) (by omega) d_M_set_25 (by decide) (fun c25 => ?_) (fun c25 => ?_)
    · refine r_iconst C (pc := 32) d_M_set_32 ?_
      refine r_ist3 C (pc := 33) rfl d_M_set_33 ?_
      refine r_ald0 C (pc := 34) d_M_set_34 ?_
      refine gM_M_isSet C (pc := 35) hS k_657 d_M_set_35 ?_
      refine r_ild1 C (pc := 38) d_M_set_38 ?_
      refine r_ild2 C (pc := 39) d_M_set_39 ?_
      refine M_bastN C (pc := 40) hS (p) (by omega) rfl (by decide) (by omega) (by decide) (by first | exact Or.inl rfl | exact Or.inr rfl | exact zb_01 _ | assumption)  d_M_set_40 ?_
      refine r_ild3 C (pc := 41) d_M_set_41 ?_
      exact r_iret C (pc := 42) hQ (⟨by unfold fSet; rw [if_neg (by omega), Int.toNat_natCast]; omega, by unfold gSet; rw [if_pos (by omega), Int.toNat_natCast]; exact RM_set hR hO (by omega)⟩) d_M_set_42
    · refine r_iconst C (pc := 28) d_M_set_28 ?_
      refine r_goto C (pc := 29) (tgt := 33) d_M_set_29 (by decide) ?_
      refine r_ist3 C (pc := 33) rfl d_M_set_33 ?_
      refine r_ald0 C (pc := 34) d_M_set_34 ?_
      refine gM_M_isSet C (pc := 35) hS k_657 d_M_set_35 ?_
      refine r_ild1 C (pc := 38) d_M_set_38 ?_
      refine r_ild2 C (pc := 39) d_M_set_39 ?_
      refine M_bastN C (pc := 40) hS (p) (by omega) rfl (by decide) (by omega) (by decide) (by first | exact Or.inl rfl | exact Or.inr rfl | exact zb_01 _ | assumption)  d_M_set_40 ?_
      refine r_ild3 C (pc := 41) d_M_set_41 ?_
      exact r_iret C (pc := 42) hQ (⟨by unfold fSet; rw [if_neg (by omega), Int.toNat_natCast]; omega, by unfold gSet; rw [if_pos (by omega), Int.toNat_natCast]; exact RM_set hR hO (by omega)⟩) d_M_set_42
  · refine r_ldc C (pc := 16) (z := (-900001)) k_780 rfl d_M_set_16 ?_
    exact r_iret C (pc := 18) hQ (⟨by unfold fSet; (try simp only [Int.toNat_natCast]); rw [if_pos (by omega)], by unfold gSet; (try simp only [Int.toNat_natCast]); rw [if_neg (by omega)]; exact hR⟩) d_M_set_18
set_option maxRecDepth 20000 in
theorem c_M_price (l : Launch) (E : zE) (M : zM) (S : zS) (hR : RM S M) (hO : ok S) (w v : Int) (hw : -2147483648 ≤ w ∧ w < 2147483648) (hv : -2147483648 ≤ v ∧ v < 2147483648) : zK l sM E y_M_price b_M_price 4 (some .int) 1 25 [.ref (E.2.2 0), .int (iI w), .int (iI v)] M (zPi (fun r M2 => r = fPrice S w v ∧ RM (gPrice S w v) M2)) := by
  refine zK.of "OldBeamsModel" rfl (by decide) (Nat.le_of_ble_eq_true rfl) ?_
  intro G hS hE hQ hL C
  subst hE
  subst hL
  show VJ G M 0 [some (.ref (G.2.1.2.2 0)), some (.int (iI w)), some (.int (iI v)), none] []
  have h12 := hO.n
  have hbn : M.1 0 2 = (S.1 0 : Int) := hR.1.1
  have hpr := hR.2.2.2.2.2.2.2.2.2.2.2
  refine r_ild1 C (pc := 0) d_M_price_0 ?_
  refine r_i2l C (pc := 1) (by omega) d_M_price_1 ?_
  refine r_lconst C (pc := 2) (v := 0) rfl d_M_price_2 ?_
  refine r_lconst C (pc := 3) (v := 1) rfl d_M_price_3 ?_
  refine call_M_in C (pc := 4) hS (c_M_in _ _ _ _ (0) (1) (by omega) (by omega) (by omega)) k_777 (by decide) (Nat.le_of_ble_eq_true rfl) rfl d_M_price_4 (kkI (fun r4 N4 h4 => ?_))
  obtain ⟨rfl, rfl⟩ := h4
  refine r_ifeqB C (pc := 7) (tgt := 22) d_M_price_7 (by decide) (fun c7 => ?_) (fun c7 => ?_)
  · refine r_ldc C (pc := 22) (z := (-900002)) k_784 rfl d_M_price_22 ?_
    exact r_iret C (pc := 24) hQ (⟨by unfold fPrice; (try simp only [Int.toNat_natCast]); rw [if_pos (by omega)], by unfold gPrice; (try simp only [Int.toNat_natCast]); rw [if_neg (by omega)]; exact hR⟩) d_M_price_24
  · refine r_ild2 C (pc := 10) d_M_price_10 ?_
    refine r_i2l C (pc := 11) (by omega) d_M_price_11 ?_
    refine r_lconst C (pc := 12) (v := 0) rfl d_M_price_12 ?_
    refine r_ldc2 C (pc := 13) k_853 d_M_price_13 ?_
    refine call_M_in C (pc := 16) hS (c_M_in _ _ _ _ (0) (9999) (by omega) (by omega) (by omega)) k_777 (by decide) (Nat.le_of_ble_eq_true rfl) rfl d_M_price_16 (kkI (fun r16 N16 h16 => ?_))
    obtain ⟨rfl, rfl⟩ := h16
    refine r_ifneB C (pc := 19) (tgt := 25) d_M_price_19 (by decide) (fun c19 => ?_) (fun c19 => ?_)
    · refine r_ild1 C (pc := 25) d_M_price_25 ?_
      refine r_if_ne C (pc := 26) (tgt := 36) (by omega) d_M_price_26 (by decide) (fun c26 => ?_) (fun c26 => ?_)
      · refine r_ald0 C (pc := 36) d_M_price_36 ?_
        refine gM_M_loss C (pc := 37) hS k_680 d_M_price_37 ?_
        refine r_ist3 C (pc := 40) rfl d_M_price_40 ?_
        refine r_ald0 C (pc := 41) d_M_price_41 ?_
        refine r_ild1 C (pc := 42) d_M_price_42 ?_
        refine r_if_ne C (pc := 43) (tgt := 50) (by omega) d_M_price_43 (by decide) (fun c43 => ?_) (fun c43 => ?_)
        · refine r_ald0 C (pc := 50) d_M_price_50 ?_
          refine gM_M_mend C (pc := 51) hS k_679 d_M_price_51 ?_
          refine pM_M_mend C (pc := 54) hS k_679 d_M_price_54 ?_
          refine r_ald0 C (pc := 57) d_M_price_57 ?_
          refine r_ild1 C (pc := 58) d_M_price_58 ?_
          refine r_iconst C (pc := 59) d_M_price_59 ?_
          refine r_icmp_ne C (pc := 60) (tgt := 67) (by omega) (by omega) d_M_price_60 (by decide) (fun c60 => ?_) (fun c60 => ?_)
          · refine r_ald0 C (pc := 67) d_M_price_67 ?_
            refine gM_M_loss C (pc := 68) hS k_680 d_M_price_68 ?_
            refine pM_M_loss C (pc := 71) hS k_680 d_M_price_71 ?_
            refine r_ild3 C (pc := 74) d_M_price_74 ?_
            exact r_iret C (pc := 75) hQ (⟨by unfold fPrice; rw [if_neg (by omega)]; first | (rw [c26]; exact hpr.1) | (rw [show w = 1 by omega]; exact hpr.2), by
                have q := RM_price (v := v) hR hO (show w = 0 ∨ w = 1 by omega)
                unfold gPrice
                rw [if_pos (by omega)]
                first
                | (rw [if_pos (show w = 0 by omega), if_neg (show ¬ w = 1 by omega)] at q; rw [zI_o (by decide)]; exact q)
                | (rw [if_neg (show ¬ w = 0 by omega), if_pos (show w = 1 by omega)] at q; exact q)
                | (exfalso; omega)⟩) d_M_price_75
          · refine r_ild2 C (pc := 63) d_M_price_63 ?_
            refine r_goto C (pc := 64) (tgt := 71) d_M_price_64 (by decide) ?_
            refine pM_M_loss C (pc := 71) hS k_680 d_M_price_71 ?_
            refine r_ild3 C (pc := 74) d_M_price_74 ?_
            exact r_iret C (pc := 75) hQ (⟨by unfold fPrice; rw [if_neg (by omega)]; first | (rw [c26]; exact hpr.1) | (rw [show w = 1 by omega]; exact hpr.2), by
                have q := RM_price (v := v) hR hO (show w = 0 ∨ w = 1 by omega)
                unfold gPrice
                rw [if_pos (by omega)]
                first
                | (rw [if_pos (show w = 0 by omega), if_neg (show ¬ w = 1 by omega)] at q; rw [zI_o (by decide)]; exact q)
                | (rw [if_neg (show ¬ w = 0 by omega), if_pos (show w = 1 by omega)] at q; exact q)
                | (exfalso; omega)⟩) d_M_price_75
        · refine r_ild2 C (pc := 46) d_M_price_46 ?_
          refine r_goto C (pc := 47) (tgt := 54) d_M_price_47 (by decide) ?_
          refine pM_M_mend C (pc := 54) hS k_679 d_M_price_54 ?_
          refine r_ald0 C (pc := 57) d_M_price_57 ?_
          refine r_ild1 C (pc := 58) d_M_price_58 ?_
          refine r_iconst C (pc := 59) d_M_price_59 ?_
          refine r_icmp_ne C (pc := 60) (tgt := 67) (by omega) (by omega) d_M_price_60 (by decide) (fun c60 => ?_) (fun c60 => ?_)
          · refine r_ald0 C (pc := 67) d_M_price_67 ?_
            refine gM_M_loss C (pc := 68) hS k_680 d_M_price_68 ?_
            refine pM_M_loss C (pc := 71) hS k_680 d_M_price_71 ?_
            refine r_ild3 C (pc := 74) d_M_price_74 ?_
            exact r_iret C (pc := 75) hQ (⟨by unfold fPrice; rw [if_neg (by omega)]; first | (rw [c26]; exact hpr.1) | (rw [show w = 1 by omega]; exact hpr.2), by
                have q := RM_price (v := v) hR hO (show w = 0 ∨ w = 1 by omega)
                unfold gPrice
                rw [if_pos (by omega)]
                first
                | (rw [if_pos (show w = 0 by omega), if_neg (show ¬ w = 1 by omega)] at q; rw [zI_o (by decide)]; exact q)
                | (rw [if_neg (show ¬ w = 0 by omega), if_pos (show w = 1 by omega)] at q; exact q)
                | (exfalso; omega)⟩) d_M_price_75
          · refine r_ild2 C (pc := 63) d_M_price_63 ?_
            refine r_goto C (pc := 64) (tgt := 71) d_M_price_64 (by decide) ?_
            refine pM_M_loss C (pc := 71) hS k_680 d_M_price_71 ?_
            refine r_ild3 C (pc := 74) d_M_price_74 ?_
            exact r_iret C (pc := 75) hQ (⟨by unfold fPrice; rw [if_neg (by omega)]; first | (rw [c26]; exact hpr.1) | (rw [show w = 1 by omega]; exact hpr.2), by
                have q := RM_price (v := v) hR hO (show w = 0 ∨ w = 1 by omega)
                unfold gPrice
                rw [if_pos (by omega)]
                first
                | (rw [if_pos (show w = 0 by omega), if_neg (show ¬ w = 1 by omega)] at q; rw [zI_o (by decide)]; exact q)
                | (rw [if_neg (show ¬ w = 0 by omega), if_pos (show w = 1 by omega)] at q; exact q)
                | (exfalso; omega)⟩) d_M_price_75
      · refine r_ald0 C (pc := 29) d_M_price_29 ?_
        refine gM_M_mend C (pc := 30) hS k_679 d_M_price_30 ?_
        refine r_goto C (pc := 33) (tgt := 40) d_M_price_33 (by decide) ?_
        refine r_ist3 C (pc := 40) rfl d_M_price_40 ?_
        refine r_ald0 C (pc := 41) d_M_price_41 ?_
        refine r_ild1 C (pc := 42) d_M_price_42 ?_
        refine r_if_ne C (pc := 43) (tgt := 50) (by omega) d_M_price_43 (by decide) (fun c43 => ?_) (fun c43 => ?_)
        · refine r_ald0 C (pc := 50) d_M_price_50 ?_
          refine gM_M_mend C (pc := 51) hS k_679 d_M_price_51 ?_
          refine pM_M_mend C (pc := 54) hS k_679 d_M_price_54 ?_
          refine r_ald0 C (pc := 57) d_M_price_57 ?_
          refine r_ild1 C (pc := 58) d_M_price_58 ?_
          refine r_iconst C (pc := 59) d_M_price_59 ?_
          refine r_icmp_ne C (pc := 60) (tgt := 67) (by omega) (by omega) d_M_price_60 (by decide) (fun c60 => ?_) (fun c60 => ?_)
          · refine r_ald0 C (pc := 67) d_M_price_67 ?_
            refine gM_M_loss C (pc := 68) hS k_680 d_M_price_68 ?_
            refine pM_M_loss C (pc := 71) hS k_680 d_M_price_71 ?_
            refine r_ild3 C (pc := 74) d_M_price_74 ?_
            exact r_iret C (pc := 75) hQ (⟨by unfold fPrice; rw [if_neg (by omega)]; first | (rw [c26]; exact hpr.1) | (rw [show w = 1 by omega]; exact hpr.2), by
                have q := RM_price (v := v) hR hO (show w = 0 ∨ w = 1 by omega)
                unfold gPrice
                rw [if_pos (by omega)]
                first
                | (rw [if_pos (show w = 0 by omega), if_neg (show ¬ w = 1 by omega)] at q; rw [zI_o (by decide)]; exact q)
                | (rw [if_neg (show ¬ w = 0 by omega), if_pos (show w = 1 by omega)] at q; exact q)
                | (exfalso; omega)⟩) d_M_price_75
          · refine r_ild2 C (pc := 63) d_M_price_63 ?_
            refine r_goto C (pc := 64) (tgt := 71) d_M_price_64 (by decide) ?_
            refine pM_M_loss C (pc := 71) hS k_680 d_M_price_71 ?_
            refine r_ild3 C (pc := 74) d_M_price_74 ?_
            exact r_iret C (pc := 75) hQ (⟨by unfold fPrice; rw [if_neg (by omega)]; first | (rw [c26]; exact hpr.1) | (rw [show w = 1 by omega]; exact hpr.2), by
                have q := RM_price (v := v) hR hO (show w = 0 ∨ w = 1 by omega)
                unfold gPrice
                rw [if_pos (by omega)]
                first
                | (rw [if_pos (show w = 0 by omega), if_neg (show ¬ w = 1 by omega)] at q; rw [zI_o (by decide)]; exact q)
                | (rw [if_neg (show ¬ w = 0 by omega), if_pos (show w = 1 by omega)] at q; exact q)
                | (exfalso; omega)⟩) d_M_price_75
        · refine r_ild2 C (pc := 46) d_M_price_46 ?_
          refine r_goto C (pc := 47) (tgt := 54) d_M_price_47 (by decide) ?_
          refine pM_M_mend C (pc := 54) hS k_679 d_M_price_54 ?_
          refine r_ald0 C (pc := 57) d_M_price_57 ?_
          refine r_ild1 C (pc := 58) d_M_price_58 ?_
          refine r_iconst C (pc := 59) d_M_price_59 ?_
          refine r_icmp_ne C (pc := 60) (tgt := 67) (by omega) (by omega) d_M_price_60 (by decide) (fun c60 => ?_) (fun c60 => ?_)
          · refine r_ald0 C (pc := 67) d_M_price_67 ?_
            refine gM_M_loss C (pc := 68) hS k_680 d_M_price_68 ?_
            refine pM_M_loss C (pc := 71) hS k_680 d_M_price_71 ?_
            refine r_ild3 C (pc := 74) d_M_price_74 ?_
            exact r_iret C (pc := 75) hQ (⟨by unfold fPrice; rw [if_neg (by omega)]; first | (rw [c26]; exact hpr.1) | (rw [show w = 1 by omega]; exact hpr.2), by
                have q := RM_price (v := v) hR hO (show w = 0 ∨ w = 1 by omega)
                unfold gPrice
                rw [if_pos (by omega)]
                first
                | (rw [if_pos (show w = 0 by omega), if_neg (show ¬ w = 1 by omega)] at q; rw [zI_o (by decide)]; exact q)
                | (rw [if_neg (show ¬ w = 0 by omega), if_pos (show w = 1 by omega)] at q; exact q)
                | (exfalso; omega)⟩) d_M_price_75
          · refine r_ild2 C (pc := 63) d_M_price_63 ?_
            refine r_goto C (pc := 64) (tgt := 71) d_M_price_64 (by decide) ?_
            refine pM_M_loss C (pc := 71) hS k_680 d_M_price_71 ?_
            refine r_ild3 C (pc := 74) d_M_price_74 ?_
            exact r_iret C (pc := 75) hQ (⟨by unfold fPrice; rw [if_neg (by omega)]; first | (rw [c26]; exact hpr.1) | (rw [show w = 1 by omega]; exact hpr.2), by
                have q := RM_price (v := v) hR hO (show w = 0 ∨ w = 1 by omega)
                unfold gPrice
                rw [if_pos (by omega)]
                first
                | (rw [if_pos (show w = 0 by omega), if_neg (show ¬ w = 1 by omega)] at q; rw [zI_o (by decide)]; exact q)
                | (rw [if_neg (show ¬ w = 0 by omega), if_pos (show w = 1 by omega)] at q; exact q)
                | (exfalso; omega)⟩) d_M_price_75
    · refine r_ldc C (pc := 22) (z := (-900002)) k_784 rfl d_M_price_22 ?_
      exact r_iret C (pc := 24) hQ (⟨by unfold fPrice; (try simp only [Int.toNat_natCast]); rw [if_pos (by omega)], by unfold gPrice; (try simp only [Int.toNat_natCast]); rw [if_neg (by omega)]; exact hR⟩) d_M_price_24
set_option maxRecDepth 20000 in
theorem l_M_beam_175 {G : zG} (C : zC G b_M_beam "OldBeamsModel" (some .int) 7 2 45) (hS : G.1 = sM) (M : zM) (S : zS) (hR : RM S M) (hO : ok S) (k l9 w h y : Int) (hk : -2147483648 ≤ k ∧ k < 2147483648) (hl9 : -2147483648 ≤ l9 ∧ l9 < 2147483648) (hw : -2147483648 ≤ w ∧ w < 2147483648) (hh : -2147483648 ≤ h ∧ h < 2147483648) (hy : -2147483648 ≤ y ∧ y < 2147483648) (hin : (0 ≤ k ∧ k ≤ 3) ∧ ((2 ≤ l9 ∧ l9 ≤ 60) ∧ (1 ≤ w ∧ w ≤ 40) ∧ (1 ≤ h ∧ h ≤ 40) ∧ (0 ≤ y ∧ y ≤ 500)) ∧ S.1 0 < 12) (hQ : G.2.2.1 = zPi (fun r M2 => r = fBeam S k l9 w h y ∧ RM (gBeam S k l9 w h y) M2)) : ∀ (n : Nat) (j : Nat) (N : zM), (j ≤ 11) → (∀ a i, a ≠ 27 → N.1 a i = (zI (zI (zI (zI (zI (zI (zI (zI M 3 (S.1 0) k) 4 (S.1 0) l9) 5 (S.1 0) w) 6 (S.1 0) h) 9 (2 * S.1 0) 0) 9 (2 * S.1 0 + 1) l9) 10 (2 * S.1 0) (-900009)) 10 (2 * S.1 0 + 1) (-900009)).1 a i) → (∀ i, i < 11 * S.1 0 → N.1 27 i = M.1 27 i) → (∀ t, t < j → N.1 27 (11 * S.1 0 + t) = 1) → (11 - j < n) → VJ G N 175 [some (.ref (zad G 0)), some (.int (iI k)), some (.int (iI l9)), some (.int (iI w)), some (.int (iI h)), some (.int (iI y)), some (.int (iI (j : Int)))] [] := by
  intro n
  induction n with
  | zero =>
    intro j N hj g1 g2 g3 hn
    exact absurd hn (by omega)
  | succ n ih =>
    intro j N hj g1 g2 g3 hn
    have e0 : N.1 0 2 = (S.1 0 : Int) := by rw [g1 0 2 (by decide), b8_e (by omega)]; exact hR.1.1
    refine r_ild6 C (pc := 175) d_M_beam_175 ?_
    refine r_bipush C (pc := 177) (n := 11) rfl d_M_beam_177 ?_
    refine r_icmp_ge C (pc := 179) (tgt := 204) (by omega) (by omega) d_M_beam_179 (by decide) (fun c179 => ?_) (fun c179 => ?_)
    · refine r_ald0 C (pc := 204) d_M_beam_204 ?_
      refine r_dup C (pc := 205) rfl d_M_beam_205 ?_
      refine gM_M_beams C (pc := 206) hS k_638 d_M_beam_206 ?_
      rw [e0]
      refine r_iconst C (pc := 209) d_M_beam_209 ?_
      refine r_iadd C (pc := 210) d_M_beam_210 ?_
      refine pM_M_beams C (pc := 211) hS k_638 d_M_beam_211 ?_
      refine r_ald0 C (pc := 214) d_M_beam_214 ?_
      refine gM_M_beams C (pc := 215) hS k_638 d_M_beam_215 ?_
      rw [zI_same]
      refine r_iconst C (pc := 218) d_M_beam_218 ?_
      refine r_isub C (pc := 219) d_M_beam_219 ?_
      exact r_iret C (pc := 220) hQ (⟨by unfold fBeam; rw [if_neg (by omega), if_neg (by omega), if_neg (by omega)]; omega, by unfold gBeam; rw [if_pos hin]; exact RM_beam hR hO hin.2.2 g1 g2 (fun t q => g3 t (by omega))⟩) d_M_beam_220
    · refine r_ald0 C (pc := 182) d_M_beam_182 ?_
      refine gM_M_weight C (pc := 183) hS k_665 d_M_beam_183 ?_
      refine r_bipush C (pc := 186) (n := 11) rfl d_M_beam_186 ?_
      refine r_ald0 C (pc := 188) d_M_beam_188 ?_
      refine gM_M_beams C (pc := 189) hS k_638 d_M_beam_189 ?_
      rw [e0]
      refine r_imul C (pc := 192) d_M_beam_192 ?_
      refine r_ild6 C (pc := 193) d_M_beam_193 ?_
      refine r_iadd C (pc := 195) d_M_beam_195 ?_
      refine r_iconst C (pc := 196) d_M_beam_196 ?_
      refine M_iastN C (pc := 197) hS (11 * S.1 0 + j) (by omega) rfl (by decide) (by omega) (by decide)  d_M_beam_197 ?_
      refine r_iinc6 C (pc := 198) rfl d_M_beam_198 ?_
      refine r_goto C (pc := 201) (tgt := 175) d_M_beam_201 (by decide) ?_
      exact ih (j + 1) _ (by omega) (fun a i q => by rw [zI_o (by omega)]; exact g1 a i q) (fun i q => by rw [zI_o (by omega)]; exact g2 i q) (fun t q => by
        by_cases e : t = j
        · rw [e]; exact zI_same _ _ _ _
        · rw [zI_o (by omega)]; exact g3 t (by omega)) (by omega)
set_option maxRecDepth 20000 in
theorem c_M_beam (l : Launch) (E : zE) (M : zM) (S : zS) (hR : RM S M) (hO : ok S) (k l9 w h y : Int) (hk : -2147483648 ≤ k ∧ k < 2147483648) (hl9 : -2147483648 ≤ l9 ∧ l9 < 2147483648) (hw : -2147483648 ≤ w ∧ w < 2147483648) (hh : -2147483648 ≤ h ∧ h < 2147483648) (hy : -2147483648 ≤ y ∧ y < 2147483648) : zK l sM E y_M_beam b_M_beam 7 (some .int) 2 45 [.ref (E.2.2 0), .int (iI k), .int (iI l9), .int (iI w), .int (iI h), .int (iI y)] M (zPi (fun r M2 => r = fBeam S k l9 w h y ∧ RM (gBeam S k l9 w h y) M2)) := by
  refine zK.of "OldBeamsModel" rfl (by decide) (Nat.le_of_ble_eq_true rfl) ?_
  intro G hS hE hQ hL C
  subst hE
  subst hL
  show VJ G M 0 [some (.ref (G.2.1.2.2 0)), some (.int (iI k)), some (.int (iI l9)), some (.int (iI w)), some (.int (iI h)), some (.int (iI y)), none] []
  have h12 := hO.n
  have hbn : M.1 0 2 = (S.1 0 : Int) := hR.1.1
  refine r_ild1 C (pc := 0) d_M_beam_0 ?_
  refine r_i2l C (pc := 1) (by omega) d_M_beam_1 ?_
  refine r_lconst C (pc := 2) (v := 0) rfl d_M_beam_2 ?_
  refine r_ldc2 C (pc := 3) k_776 d_M_beam_3 ?_
  refine call_M_in C (pc := 6) hS (c_M_in _ _ _ _ (0) (3) (by omega) (by omega) (by omega)) k_777 (by decide) (Nat.le_of_ble_eq_true rfl) rfl d_M_beam_6 (kkI (fun r6 N6 h6 => ?_))
  obtain ⟨rfl, rfl⟩ := h6
  refine r_ifneB C (pc := 9) (tgt := 15) d_M_beam_9 (by decide) (fun c9 => ?_) (fun c9 => ?_)
  · refine r_ild2 C (pc := 15) d_M_beam_15 ?_
    refine r_i2l C (pc := 16) (by omega) d_M_beam_16 ?_
    refine r_ldc2 C (pc := 17) k_782 d_M_beam_17 ?_
    refine r_ldc2 C (pc := 20) k_789 d_M_beam_20 ?_
    refine call_M_in C (pc := 23) hS (c_M_in _ _ _ _ (2) (60) (by omega) (by omega) (by omega)) k_777 (by decide) (Nat.le_of_ble_eq_true rfl) rfl d_M_beam_23 (kkI (fun r23 N23 h23 => ?_))
    obtain ⟨rfl, rfl⟩ := h23
    refine r_ifeqB C (pc := 26) (tgt := 62) d_M_beam_26 (by decide) (fun c26 => ?_) (fun c26 => ?_)
    · refine r_ldc C (pc := 62) (z := (-900002)) k_784 rfl d_M_beam_62 ?_
      exact r_iret C (pc := 64) hQ (⟨by unfold fBeam; (try simp only [Int.toNat_natCast]); rw [if_neg (by omega), if_pos (by omega)], by unfold gBeam; (try simp only [Int.toNat_natCast]); rw [if_neg (by omega)]; exact hR⟩) d_M_beam_64
    · refine r_ild3 C (pc := 29) d_M_beam_29 ?_
      refine r_i2l C (pc := 30) (by omega) d_M_beam_30 ?_
      refine r_lconst C (pc := 31) (v := 1) rfl d_M_beam_31 ?_
      refine r_ldc2 C (pc := 32) k_790 d_M_beam_32 ?_
      refine call_M_in C (pc := 35) hS (c_M_in _ _ _ _ (1) (40) (by omega) (by omega) (by omega)) k_777 (by decide) (Nat.le_of_ble_eq_true rfl) rfl d_M_beam_35 (kkI (fun r35 N35 h35 => ?_))
      obtain ⟨rfl, rfl⟩ := h35
      refine r_ifeqB C (pc := 38) (tgt := 62) d_M_beam_38 (by decide) (fun c38 => ?_) (fun c38 => ?_)
      · refine r_ldc C (pc := 62) (z := (-900002)) k_784 rfl d_M_beam_62 ?_
        exact r_iret C (pc := 64) hQ (⟨by unfold fBeam; (try simp only [Int.toNat_natCast]); rw [if_neg (by omega), if_pos (by omega)], by unfold gBeam; (try simp only [Int.toNat_natCast]); rw [if_neg (by omega)]; exact hR⟩) d_M_beam_64
      · refine r_ild4 C (pc := 41) d_M_beam_41 ?_
        refine r_i2l C (pc := 43) (by omega) d_M_beam_43 ?_
        refine r_lconst C (pc := 44) (v := 1) rfl d_M_beam_44 ?_
        refine r_ldc2 C (pc := 45) k_790 d_M_beam_45 ?_
        refine call_M_in C (pc := 48) hS (c_M_in _ _ _ _ (1) (40) (by omega) (by omega) (by omega)) k_777 (by decide) (Nat.le_of_ble_eq_true rfl) rfl d_M_beam_48 (kkI (fun r48 N48 h48 => ?_))
        obtain ⟨rfl, rfl⟩ := h48
        refine r_ifeqB C (pc := 51) (tgt := 62) d_M_beam_51 (by decide) (fun c51 => ?_) (fun c51 => ?_)
        · refine r_ldc C (pc := 62) (z := (-900002)) k_784 rfl d_M_beam_62 ?_
          exact r_iret C (pc := 64) hQ (⟨by unfold fBeam; (try simp only [Int.toNat_natCast]); rw [if_neg (by omega), if_pos (by omega)], by unfold gBeam; (try simp only [Int.toNat_natCast]); rw [if_neg (by omega)]; exact hR⟩) d_M_beam_64
        · refine r_ild5 C (pc := 54) d_M_beam_54 ?_
          refine call_M_isYear C (pc := 56) hS (c_M_isYear _ _ _ _ (by omega)) k_791 (by decide) (Nat.le_of_ble_eq_true rfl) rfl d_M_beam_56 (kkI (fun r56 N56 h56 => ?_))
          obtain ⟨rfl, rfl⟩ := h56
          refine r_ifneB C (pc := 59) (tgt := 65) d_M_beam_59 (by decide) (fun c59 => ?_) (fun c59 => ?_)
          · refine r_ald0 C (pc := 65) d_M_beam_65 ?_
            refine gM_M_beams C (pc := 66) hS k_638 d_M_beam_66 ?_
            rw [hbn]
            refine r_bipush C (pc := 69) (n := 12) rfl d_M_beam_69 ?_
            refine r_icmp_ne C (pc := 71) (tgt := 77) (by omega) (by omega) d_M_beam_71 (by decide) (fun c71 => ?_) (fun c71 => ?_)
            · refine r_ald0 C (pc := 77) d_M_beam_77 ?_
              refine gM_M_kind C (pc := 78) hS k_639 d_M_beam_78 ?_
              refine r_ald0 C (pc := 81) d_M_beam_81 ?_
              refine gM_M_beams C (pc := 82) hS k_638 d_M_beam_82 ?_
              rw [hbn]
              refine r_ild1 C (pc := 85) d_M_beam_85 ?_
              refine M_iastN C (pc := 86) hS (S.1 0) (by omega) rfl (by decide) (by omega) (by decide)  d_M_beam_86 ?_
              refine r_ald0 C (pc := 87) d_M_beam_87 ?_
              refine gM_M_length C (pc := 88) hS k_640 d_M_beam_88 ?_
              refine r_ald0 C (pc := 91) d_M_beam_91 ?_
              refine gM_M_beams C (pc := 92) hS k_638 d_M_beam_92 ?_
              rw [zI_o (by omega), hbn]
              refine r_ild2 C (pc := 95) d_M_beam_95 ?_
              refine M_iastN C (pc := 96) hS (S.1 0) (by omega) rfl (by decide) (by omega) (by decide)  d_M_beam_96 ?_
              refine r_ald0 C (pc := 97) d_M_beam_97 ?_
              refine gM_M_width C (pc := 98) hS k_641 d_M_beam_98 ?_
              refine r_ald0 C (pc := 101) d_M_beam_101 ?_
              refine gM_M_beams C (pc := 102) hS k_638 d_M_beam_102 ?_
              rw [zI_o (by omega), zI_o (by omega), hbn]
              refine r_ild3 C (pc := 105) d_M_beam_105 ?_
              refine M_iastN C (pc := 106) hS (S.1 0) (by omega) rfl (by decide) (by omega) (by decide)  d_M_beam_106 ?_
              refine r_ald0 C (pc := 107) d_M_beam_107 ?_
              refine gM_M_height C (pc := 108) hS k_642 d_M_beam_108 ?_
              refine r_ald0 C (pc := 111) d_M_beam_111 ?_
              refine gM_M_beams C (pc := 112) hS k_638 d_M_beam_112 ?_
              rw [zI_o (by omega), zI_o (by omega), zI_o (by omega), hbn]
              refine r_ild4 C (pc := 115) d_M_beam_115 ?_
              refine M_iastN C (pc := 117) hS (S.1 0) (by omega) rfl (by decide) (by omega) (by decide)  d_M_beam_117 ?_
              refine r_ald0 C (pc := 118) d_M_beam_118 ?_
              refine gM_M_seatAt C (pc := 119) hS k_645 d_M_beam_119 ?_
              refine r_iconst C (pc := 122) d_M_beam_122 ?_
              refine r_ald0 C (pc := 123) d_M_beam_123 ?_
              refine gM_M_beams C (pc := 124) hS k_638 d_M_beam_124 ?_
              rw [zI_o (by omega), zI_o (by omega), zI_o (by omega), zI_o (by omega), hbn]
              refine r_imul C (pc := 127) d_M_beam_127 ?_
              refine r_iconst C (pc := 128) d_M_beam_128 ?_
              refine M_iastN C (pc := 129) hS (2 * S.1 0) (by omega) rfl (by decide) (by omega) (by decide)  d_M_beam_129 ?_
              refine r_ald0 C (pc := 130) d_M_beam_130 ?_
              refine gM_M_seatAt C (pc := 131) hS k_645 d_M_beam_131 ?_
              refine r_iconst C (pc := 134) d_M_beam_134 ?_
              refine r_ald0 C (pc := 135) d_M_beam_135 ?_
              refine gM_M_beams C (pc := 136) hS k_638 d_M_beam_136 ?_
              rw [zI_o (by omega), zI_o (by omega), zI_o (by omega), zI_o (by omega), zI_o (by omega), hbn]
              refine r_imul C (pc := 139) d_M_beam_139 ?_
              refine r_iconst C (pc := 140) d_M_beam_140 ?_
              refine r_iadd C (pc := 141) d_M_beam_141 ?_
              refine r_ild2 C (pc := 142) d_M_beam_142 ?_
              refine M_iastN C (pc := 143) hS (2 * S.1 0 + 1) (by omega) rfl (by decide) (by omega) (by decide)  d_M_beam_143 ?_
              refine r_ald0 C (pc := 144) d_M_beam_144 ?_
              refine gM_M_seatOn C (pc := 145) hS k_646 d_M_beam_145 ?_
              refine r_iconst C (pc := 148) d_M_beam_148 ?_
              refine r_ald0 C (pc := 149) d_M_beam_149 ?_
              refine gM_M_beams C (pc := 150) hS k_638 d_M_beam_150 ?_
              rw [zI_o (by omega), zI_o (by omega), zI_o (by omega), zI_o (by omega), zI_o (by omega), zI_o (by omega), hbn]
              refine r_imul C (pc := 153) d_M_beam_153 ?_
              refine r_ldc C (pc := 154) (z := (-900009)) k_796 rfl d_M_beam_154 ?_
              refine M_iastN C (pc := 156) hS (2 * S.1 0) (by omega) rfl (by decide) (by omega) (by decide)  d_M_beam_156 ?_
              refine r_ald0 C (pc := 157) d_M_beam_157 ?_
              refine gM_M_seatOn C (pc := 158) hS k_646 d_M_beam_158 ?_
              refine r_iconst C (pc := 161) d_M_beam_161 ?_
              refine r_ald0 C (pc := 162) d_M_beam_162 ?_
              refine gM_M_beams C (pc := 163) hS k_638 d_M_beam_163 ?_
              rw [zI_o (by omega), zI_o (by omega), zI_o (by omega), zI_o (by omega), zI_o (by omega), zI_o (by omega), zI_o (by omega), hbn]
              refine r_imul C (pc := 166) d_M_beam_166 ?_
              refine r_iconst C (pc := 167) d_M_beam_167 ?_
              refine r_iadd C (pc := 168) d_M_beam_168 ?_
              refine r_ldc C (pc := 169) (z := (-900009)) k_796 rfl d_M_beam_169 ?_
              refine M_iastN C (pc := 171) hS (2 * S.1 0 + 1) (by omega) rfl (by decide) (by omega) (by decide)  d_M_beam_171 ?_
              refine r_iconst C (pc := 172) d_M_beam_172 ?_
              refine r_ist6 C (pc := 173) rfl d_M_beam_173 ?_
              exact l_M_beam_175 C hS M S hR hO k l9 w h y hk hl9 hw hh hy (by omega) hQ 12 0 _ (by omega) (fun a i q => rfl) (fun i q => b8_e (by omega)) (fun t q => absurd q (Nat.not_lt_zero t)) (by omega)
            · refine r_ldc C (pc := 74) (z := (-900004)) k_795 rfl d_M_beam_74 ?_
              exact r_iret C (pc := 76) hQ (⟨by unfold fBeam; (try simp only [Int.toNat_natCast]); rw [if_neg (by omega), if_neg (by omega), if_pos (by omega)], by unfold gBeam; (try simp only [Int.toNat_natCast]); rw [if_neg (by omega)]; exact hR⟩) d_M_beam_76
          · refine r_ldc C (pc := 62) (z := (-900002)) k_784 rfl d_M_beam_62 ?_
            exact r_iret C (pc := 64) hQ (⟨by unfold fBeam; (try simp only [Int.toNat_natCast]); rw [if_neg (by omega), if_pos (by omega)], by unfold gBeam; (try simp only [Int.toNat_natCast]); rw [if_neg (by omega)]; exact hR⟩) d_M_beam_64
  · refine r_ldc C (pc := 12) (z := (-900001)) k_780 rfl d_M_beam_12 ?_
    exact r_iret C (pc := 14) hQ (⟨by unfold fBeam; (try simp only [Int.toNat_natCast]); rw [if_pos (by omega)], by unfold gBeam; (try simp only [Int.toNat_natCast]); rw [if_neg (by omega)]; exact hR⟩) d_M_beam_14
set_option maxRecDepth 20000 in
theorem c_M_seat (l : Launch) (E : zE) (M : zM) (S : zS) (hR : RM S M) (hO : ok S) (b s p n w : Int) (hb : -2147483648 ≤ b ∧ b < 2147483648) (hs : -2147483648 ≤ s ∧ s < 2147483648) (hp : -2147483648 ≤ p ∧ p < 2147483648) (hn : -2147483648 ≤ n ∧ n < 2147483648) (hw : -2147483648 ≤ w ∧ w < 2147483648) : zK l sM E y_M_seat b_M_seat 10 (some .int) 2 46 [.ref (E.2.2 0), .int (iI b), .int (iI s), .int (iI p), .int (iI n), .int (iI w)] M (zPi (fun r M2 => r = fSeat S b s p n w ∧ RM (gSeat S b s p n w) M2)) := by
  refine zK.of "OldBeamsModel" rfl (by decide) (Nat.le_of_ble_eq_true rfl) ?_
  intro G hS hE hQ hL C
  subst hE
  subst hL
  show VJ G M 0 [some (.ref (G.2.1.2.2 0)), some (.int (iI b)), some (.int (iI s)), some (.int (iI p)), some (.int (iI n)), some (.int (iI w)), none, none, none, none] []
  have h12 := hO.n
  have hbn : M.1 0 2 = (S.1 0 : Int) := hR.1.1
  refine r_ald0 C (pc := 0) d_M_seat_0 ?_
  refine r_ild1 C (pc := 1) d_M_seat_1 ?_
  refine call_M_isBeam C (pc := 2) hS (c_M_isBeam _ _ M S hR hO _ (by omega)) k_801 (by decide) (Nat.le_of_ble_eq_true rfl) rfl d_M_seat_2 (kkI (fun r2 N2 h2 => ?_))
  obtain ⟨rfl, rfl⟩ := h2
  refine r_ifneB C (pc := 5) (tgt := 11) d_M_seat_5 (by decide) (fun c5 => ?_) (fun c5 => ?_)
  · obtain ⟨b, rfl⟩ := Int.eq_ofNat_of_zero_le c5.1
    have hb : b < S.1 0 := by omega
    have hbo := hO.2.2.1 b hb
    obtain ⟨-, hl6, -, -, hpl0, hpl1, -⟩ := hbo
    obtain ⟨⟨-, e1, -⟩, hrs⟩ := hR.2.2.1 b hb
    have hq0 : M.1 9 (2 * b) = S.2 3 b 0 := (hrs 0 (by omega)).1
    have hq1 : M.1 9 (2 * b + 1) = S.2 3 b 1 := (hrs 1 (by omega)).1
    refine r_ild4 C (pc := 11) d_M_seat_11 ?_
    refine r_i2l C (pc := 13) (by omega) d_M_seat_13 ?_
    refine r_lconst C (pc := 14) (v := 0) rfl d_M_seat_14 ?_
    refine r_ild1 C (pc := 15) d_M_seat_15 ?_
    refine r_iconst C (pc := 16) d_M_seat_16 ?_
    refine r_isub C (pc := 17) d_M_seat_17 ?_
    refine r_i2l C (pc := 18) (by omega) d_M_seat_18 ?_
    refine call_M_in C (pc := 19) hS (c_M_in _ _ _ _ (0) _ (by omega) (by omega) (by omega)) k_777 (by decide) (Nat.le_of_ble_eq_true rfl) rfl d_M_seat_19 (kkI (fun r19 N19 h19 => ?_))
    obtain ⟨rfl, rfl⟩ := h19
    refine r_ist6 C (pc := 22) rfl d_M_seat_22 ?_
    refine r_ild2 C (pc := 24) d_M_seat_24 ?_
    refine r_i2l C (pc := 25) (by omega) d_M_seat_25 ?_
    refine r_lconst C (pc := 26) (v := 0) rfl d_M_seat_26 ?_
    refine r_lconst C (pc := 27) (v := 1) rfl d_M_seat_27 ?_
    refine call_M_in C (pc := 28) hS (c_M_in _ _ _ _ (0) (1) (by omega) (by omega) (by omega)) k_777 (by decide) (Nat.le_of_ble_eq_true rfl) rfl d_M_seat_28 (kkI (fun r28 N28 h28 => ?_))
    obtain ⟨rfl, rfl⟩ := h28
    refine r_ifeqB C (pc := 31) (tgt := 73) d_M_seat_31 (by decide) (fun c31 => ?_) (fun c31 => ?_)
    · refine r_ldc C (pc := 73) (z := (-900002)) k_784 rfl d_M_seat_73 ?_
      exact r_iret C (pc := 75) hQ (⟨by unfold fSeat; (try simp only [Int.toNat_natCast]); first | (exfalso; omega) | (rw [if_neg (by omega), if_pos (by omega)]) | (rw [if_neg (by omega), if_neg (by omega), if_neg (by omega), if_pos (by omega)]), by unfold gSeat; (try simp only [Int.toNat_natCast]); first | (exfalso; omega) | (rw [if_neg (by omega)]; exact hR)⟩) d_M_seat_75
    · obtain ⟨s, rfl⟩ := Int.eq_ofNat_of_zero_le c31.1
      refine r_ild3 C (pc := 34) d_M_seat_34 ?_
      refine r_i2l C (pc := 35) (by omega) d_M_seat_35 ?_
      refine r_lconst C (pc := 36) (v := 0) rfl d_M_seat_36 ?_
      refine r_ald0 C (pc := 37) d_M_seat_37 ?_
      refine gM_M_length C (pc := 38) hS k_640 d_M_seat_38 ?_
      refine r_ild1 C (pc := 41) d_M_seat_41 ?_
      refine M_ialdN C (pc := 42) hS (b) (by omega) rfl (by decide) (by omega) (by decide) d_M_seat_42 ?_
      rw [e1]
      refine r_i2l C (pc := 43) (by omega) d_M_seat_43 ?_
      refine call_M_in C (pc := 44) hS (c_M_in _ _ _ _ (0) _ (by omega) (by omega) (by omega)) k_777 (by decide) (Nat.le_of_ble_eq_true rfl) rfl d_M_seat_44 (kkI (fun r44 N44 h44 => ?_))
      obtain ⟨rfl, rfl⟩ := h44
      refine r_ifeqB C (pc := 47) (tgt := 73) d_M_seat_47 (by decide) (fun c47 => ?_) (fun c47 => ?_)
      · refine r_ldc C (pc := 73) (z := (-900002)) k_784 rfl d_M_seat_73 ?_
        exact r_iret C (pc := 75) hQ (⟨by unfold fSeat; (try simp only [Int.toNat_natCast]); first | (exfalso; omega) | (rw [if_neg (by omega), if_pos (by omega)]) | (rw [if_neg (by omega), if_neg (by omega), if_neg (by omega), if_pos (by omega)]), by unfold gSeat; (try simp only [Int.toNat_natCast]); first | (exfalso; omega) | (rw [if_neg (by omega)]; exact hR)⟩) d_M_seat_75
      · refine r_ild6 C (pc := 50) d_M_seat_50 ?_
        refine r_ifeqB C (pc := 52) (tgt := 76) d_M_seat_52 (by decide) (fun c52 => ?_) (fun c52 => ?_)
        · refine r_ild2 C (pc := 76) d_M_seat_76 ?_
          refine r_if_ne C (pc := 77) (tgt := 84) (by omega) d_M_seat_77 (by decide) (fun c77 => ?_) (fun c77 => ?_)
          · have hsa : sAp S (b : Int) (s : Int) p = p - S.2 3 b 0 := by unfold sAp; rw [if_neg c77, if_neg c77]; rfl
            refine r_ald0 C (pc := 84) d_M_seat_84 ?_
            refine gM_M_seatAt C (pc := 85) hS k_645 d_M_seat_85 ?_
            refine r_iconst C (pc := 88) d_M_seat_88 ?_
            refine r_ild1 C (pc := 89) d_M_seat_89 ?_
            refine r_imul C (pc := 90) d_M_seat_90 ?_
            refine M_ialdN C (pc := 91) hS (2 * b) (by omega) rfl (by decide) (by omega) (by decide) d_M_seat_91 ?_
            rw [hq0]
            refine r_ist7 C (pc := 92) rfl d_M_seat_92 ?_
            refine r_ild2 C (pc := 94) d_M_seat_94 ?_
            refine r_if_ne C (pc := 95) (tgt := 111) (by omega) d_M_seat_95 (by decide) (fun c95 => ?_) (fun c95 => ?_)
            · refine r_ild3 C (pc := 111) d_M_seat_111 ?_
              refine r_ist8 C (pc := 112) rfl d_M_seat_112 ?_
              refine r_ild4 C (pc := 114) d_M_seat_114 ?_
              refine r_ldc C (pc := 116) (z := (-900009)) k_796 rfl d_M_seat_116 ?_
              refine r_icmp_eq C (pc := 118) (tgt := 126) (by omega) (by omega) d_M_seat_118 (by decide) (fun c118 => ?_) (fun c118 => ?_)
              · refine r_ild7 C (pc := 126) d_M_seat_126 ?_
                refine r_ild8 C (pc := 128) d_M_seat_128 ?_
                refine r_icmp_ge C (pc := 130) (tgt := 149) (by omega) (by omega) d_M_seat_130 (by decide) (fun c130 => ?_) (fun c130 => ?_)
                · refine r_ldc C (pc := 149) (z := (-900003)) k_805 rfl d_M_seat_149 ?_
                  exact r_iret C (pc := 151) hQ (⟨by unfold fSeat; (try simp only [Int.toNat_natCast]); first | (exfalso; omega) | (rw [if_neg (by omega), if_neg (by omega), if_pos (by omega)]) | (rw [if_neg (by omega), if_neg (by omega), if_neg (by omega), if_neg (by omega), if_pos (by omega)]), by unfold gSeat; (try simp only [Int.toNat_natCast]); first | (exfalso; omega) | (rw [if_neg (by omega)]; exact hR)⟩) d_M_seat_151
                · refine r_iconst C (pc := 133) d_M_seat_133 ?_
                  refine r_ild8 C (pc := 134) d_M_seat_134 ?_
                  refine r_ild7 C (pc := 136) d_M_seat_136 ?_
                  refine r_isub C (pc := 138) d_M_seat_138 ?_
                  refine r_imul C (pc := 139) d_M_seat_139 ?_
                  refine r_ald0 C (pc := 140) d_M_seat_140 ?_
                  refine gM_M_length C (pc := 141) hS k_640 d_M_seat_141 ?_
                  refine r_ild1 C (pc := 144) d_M_seat_144 ?_
                  refine M_ialdN C (pc := 145) hS (b) (by omega) rfl (by decide) (by omega) (by decide) d_M_seat_145 ?_
                  rw [e1]
                  refine r_icmp_ge C (pc := 146) (tgt := 152) (by omega) (by omega) d_M_seat_146 (by decide) (fun c146 => ?_) (fun c146 => ?_)
                  · refine r_ald0 C (pc := 152) d_M_seat_152 ?_
                    refine gM_M_seatAt C (pc := 153) hS k_645 d_M_seat_153 ?_
                    refine r_iconst C (pc := 156) d_M_seat_156 ?_
                    refine r_ild1 C (pc := 157) d_M_seat_157 ?_
                    refine r_imul C (pc := 158) d_M_seat_158 ?_
                    refine r_ild2 C (pc := 159) d_M_seat_159 ?_
                    refine r_iadd C (pc := 160) d_M_seat_160 ?_
                    refine M_ialdN C (pc := 161) hS (2 * b + s) (by omega) rfl (by decide) (by omega) (by decide) d_M_seat_161 ?_
                    rw [(hrs s (by omega)).1]
                    refine r_ist9 C (pc := 162) rfl d_M_seat_162 ?_
                    refine r_ald0 C (pc := 164) d_M_seat_164 ?_
                    refine gM_M_seatAt C (pc := 165) hS k_645 d_M_seat_165 ?_
                    refine r_iconst C (pc := 168) d_M_seat_168 ?_
                    refine r_ild1 C (pc := 169) d_M_seat_169 ?_
                    refine r_imul C (pc := 170) d_M_seat_170 ?_
                    refine r_ild2 C (pc := 171) d_M_seat_171 ?_
                    refine r_iadd C (pc := 172) d_M_seat_172 ?_
                    refine r_ild3 C (pc := 173) d_M_seat_173 ?_
                    refine M_iastN C (pc := 174) hS (2 * b + s) (by omega) rfl (by decide) (by omega) (by decide)  d_M_seat_174 ?_
                    refine r_ald0 C (pc := 175) d_M_seat_175 ?_
                    refine gM_M_seatOn C (pc := 176) hS k_646 d_M_seat_176 ?_
                    refine r_iconst C (pc := 179) d_M_seat_179 ?_
                    refine r_ild1 C (pc := 180) d_M_seat_180 ?_
                    refine r_imul C (pc := 181) d_M_seat_181 ?_
                    refine r_ild2 C (pc := 182) d_M_seat_182 ?_
                    refine r_iadd C (pc := 183) d_M_seat_183 ?_
                    refine r_ild4 C (pc := 184) d_M_seat_184 ?_
                    refine M_iastN C (pc := 186) hS (2 * b + s) (by omega) rfl (by decide) (by omega) (by decide)  d_M_seat_186 ?_
                    refine r_ald0 C (pc := 187) d_M_seat_187 ?_
                    refine gM_M_seatWhere C (pc := 188) hS k_647 d_M_seat_188 ?_
                    refine r_iconst C (pc := 191) d_M_seat_191 ?_
                    refine r_ild1 C (pc := 192) d_M_seat_192 ?_
                    refine r_imul C (pc := 193) d_M_seat_193 ?_
                    refine r_ild2 C (pc := 194) d_M_seat_194 ?_
                    refine r_iadd C (pc := 195) d_M_seat_195 ?_
                    refine r_ild5 C (pc := 196) d_M_seat_196 ?_
                    refine M_iastN C (pc := 198) hS (2 * b + s) (by omega) rfl (by decide) (by omega) (by decide)  d_M_seat_198 ?_
                    refine r_ild9 C (pc := 199) d_M_seat_199 ?_
                    exact r_iret C (pc := 201) hQ (⟨by unfold fSeat; (try simp only [Int.toNat_natCast]); first | (exfalso; omega) | (rw [if_neg (by omega), if_neg (by omega), if_neg (by omega), if_neg (by omega), if_neg (by omega)]), by unfold gSeat aSeat; (try simp only [Int.toNat_natCast]); first | (exfalso; omega) | (rw [if_pos (by omega)]; exact RM_seat hR hO hb (by omega))⟩) d_M_seat_201
                  · refine r_ldc C (pc := 149) (z := (-900003)) k_805 rfl d_M_seat_149 ?_
                    exact r_iret C (pc := 151) hQ (⟨by unfold fSeat; (try simp only [Int.toNat_natCast]); first | (exfalso; omega) | (rw [if_neg (by omega), if_neg (by omega), if_pos (by omega)]) | (rw [if_neg (by omega), if_neg (by omega), if_neg (by omega), if_neg (by omega), if_pos (by omega)]), by unfold gSeat; (try simp only [Int.toNat_natCast]); first | (exfalso; omega) | (rw [if_neg (by omega)]; exact hR)⟩) d_M_seat_151
              · refine r_ild6 C (pc := 121) d_M_seat_121 ?_
                refine r_ifeqB C (pc := 123) (tgt := 149) d_M_seat_123 (by decide) (fun c123 => ?_) (fun c123 => ?_)
                · refine r_ldc C (pc := 149) (z := (-900003)) k_805 rfl d_M_seat_149 ?_
                  exact r_iret C (pc := 151) hQ (⟨by unfold fSeat; (try simp only [Int.toNat_natCast]); first | (exfalso; omega) | (rw [if_neg (by omega), if_neg (by omega), if_pos (by omega)]) | (rw [if_neg (by omega), if_neg (by omega), if_neg (by omega), if_neg (by omega), if_pos (by omega)]), by unfold gSeat; (try simp only [Int.toNat_natCast]); first | (exfalso; omega) | (rw [if_neg (by omega)]; exact hR)⟩) d_M_seat_151
                · refine r_ild7 C (pc := 126) d_M_seat_126 ?_
                  refine r_ild8 C (pc := 128) d_M_seat_128 ?_
                  refine r_icmp_ge C (pc := 130) (tgt := 149) (by omega) (by omega) d_M_seat_130 (by decide) (fun c130 => ?_) (fun c130 => ?_)
                  · refine r_ldc C (pc := 149) (z := (-900003)) k_805 rfl d_M_seat_149 ?_
                    exact r_iret C (pc := 151) hQ (⟨by unfold fSeat; (try simp only [Int.toNat_natCast]); first | (exfalso; omega) | (rw [if_neg (by omega), if_neg (by omega), if_pos (by omega)]) | (rw [if_neg (by omega), if_neg (by omega), if_neg (by omega), if_neg (by omega), if_pos (by omega)]), by unfold gSeat; (try simp only [Int.toNat_natCast]); first | (exfalso; omega) | (rw [if_neg (by omega)]; exact hR)⟩) d_M_seat_151
                  · refine r_iconst C (pc := 133) d_M_seat_133 ?_
                    refine r_ild8 C (pc := 134) d_M_seat_134 ?_
                    refine r_ild7 C (pc := 136) d_M_seat_136 ?_
                    refine r_isub C (pc := 138) d_M_seat_138 ?_
                    refine r_imul C (pc := 139) d_M_seat_139 ?_
                    refine r_ald0 C (pc := 140) d_M_seat_140 ?_
                    refine gM_M_length C (pc := 141) hS k_640 d_M_seat_141 ?_
                    refine r_ild1 C (pc := 144) d_M_seat_144 ?_
                    refine M_ialdN C (pc := 145) hS (b) (by omega) rfl (by decide) (by omega) (by decide) d_M_seat_145 ?_
                    rw [e1]
                    refine r_icmp_ge C (pc := 146) (tgt := 152) (by omega) (by omega) d_M_seat_146 (by decide) (fun c146 => ?_) (fun c146 => ?_)
                    · refine r_ald0 C (pc := 152) d_M_seat_152 ?_
                      refine gM_M_seatAt C (pc := 153) hS k_645 d_M_seat_153 ?_
                      refine r_iconst C (pc := 156) d_M_seat_156 ?_
                      refine r_ild1 C (pc := 157) d_M_seat_157 ?_
                      refine r_imul C (pc := 158) d_M_seat_158 ?_
                      refine r_ild2 C (pc := 159) d_M_seat_159 ?_
                      refine r_iadd C (pc := 160) d_M_seat_160 ?_
                      refine M_ialdN C (pc := 161) hS (2 * b + s) (by omega) rfl (by decide) (by omega) (by decide) d_M_seat_161 ?_
                      rw [(hrs s (by omega)).1]
                      refine r_ist9 C (pc := 162) rfl d_M_seat_162 ?_
                      refine r_ald0 C (pc := 164) d_M_seat_164 ?_
                      refine gM_M_seatAt C (pc := 165) hS k_645 d_M_seat_165 ?_
                      refine r_iconst C (pc := 168) d_M_seat_168 ?_
                      refine r_ild1 C (pc := 169) d_M_seat_169 ?_
                      refine r_imul C (pc := 170) d_M_seat_170 ?_
                      refine r_ild2 C (pc := 171) d_M_seat_171 ?_
                      refine r_iadd C (pc := 172) d_M_seat_172 ?_
                      refine r_ild3 C (pc := 173) d_M_seat_173 ?_
                      refine M_iastN C (pc := 174) hS (2 * b + s) (by omega) rfl (by decide) (by omega) (by decide)  d_M_seat_174 ?_
                      refine r_ald0 C (pc := 175) d_M_seat_175 ?_
                      refine gM_M_seatOn C (pc := 176) hS k_646 d_M_seat_176 ?_
                      refine r_iconst C (pc := 179) d_M_seat_179 ?_
                      refine r_ild1 C (pc := 180) d_M_seat_180 ?_
                      refine r_imul C (pc := 181) d_M_seat_181 ?_
                      refine r_ild2 C (pc := 182) d_M_seat_182 ?_
                      refine r_iadd C (pc := 183) d_M_seat_183 ?_
                      refine r_ild4 C (pc := 184) d_M_seat_184 ?_
                      refine M_iastN C (pc := 186) hS (2 * b + s) (by omega) rfl (by decide) (by omega) (by decide)  d_M_seat_186 ?_
                      refine r_ald0 C (pc := 187) d_M_seat_187 ?_
                      refine gM_M_seatWhere C (pc := 188) hS k_647 d_M_seat_188 ?_
                      refine r_iconst C (pc := 191) d_M_seat_191 ?_
                      refine r_ild1 C (pc := 192) d_M_seat_192 ?_
                      refine r_imul C (pc := 193) d_M_seat_193 ?_
                      refine r_ild2 C (pc := 194) d_M_seat_194 ?_
                      refine r_iadd C (pc := 195) d_M_seat_195 ?_
                      refine r_ild5 C (pc := 196) d_M_seat_196 ?_
                      refine M_iastN C (pc := 198) hS (2 * b + s) (by omega) rfl (by decide) (by omega) (by decide)  d_M_seat_198 ?_
                      refine r_ild9 C (pc := 199) d_M_seat_199 ?_
                      exact r_iret C (pc := 201) hQ (⟨by unfold fSeat; (try simp only [Int.toNat_natCast]); first | (exfalso; omega) | (rw [if_neg (by omega), if_neg (by omega), if_neg (by omega), if_neg (by omega), if_neg (by omega)]), by unfold gSeat aSeat; (try simp only [Int.toNat_natCast]); first | (exfalso; omega) | (rw [if_pos (by omega)]; exact RM_seat hR hO hb (by omega))⟩) d_M_seat_201
                    · refine r_ldc C (pc := 149) (z := (-900003)) k_805 rfl d_M_seat_149 ?_
                      exact r_iret C (pc := 151) hQ (⟨by unfold fSeat; (try simp only [Int.toNat_natCast]); first | (exfalso; omega) | (rw [if_neg (by omega), if_neg (by omega), if_pos (by omega)]) | (rw [if_neg (by omega), if_neg (by omega), if_neg (by omega), if_neg (by omega), if_pos (by omega)]), by unfold gSeat; (try simp only [Int.toNat_natCast]); first | (exfalso; omega) | (rw [if_neg (by omega)]; exact hR)⟩) d_M_seat_151
            · refine r_ald0 C (pc := 98) d_M_seat_98 ?_
              refine gM_M_seatAt C (pc := 99) hS k_645 d_M_seat_99 ?_
              refine r_iconst C (pc := 102) d_M_seat_102 ?_
              refine r_ild1 C (pc := 103) d_M_seat_103 ?_
              refine r_imul C (pc := 104) d_M_seat_104 ?_
              refine r_iconst C (pc := 105) d_M_seat_105 ?_
              refine r_iadd C (pc := 106) d_M_seat_106 ?_
              refine M_ialdN C (pc := 107) hS (2 * b + 1) (by omega) rfl (by decide) (by omega) (by decide) d_M_seat_107 ?_
              rw [hq1]
              refine r_goto C (pc := 108) (tgt := 112) d_M_seat_108 (by decide) ?_
              refine r_ist8 C (pc := 112) rfl d_M_seat_112 ?_
              refine r_ild4 C (pc := 114) d_M_seat_114 ?_
              refine r_ldc C (pc := 116) (z := (-900009)) k_796 rfl d_M_seat_116 ?_
              refine r_icmp_eq C (pc := 118) (tgt := 126) (by omega) (by omega) d_M_seat_118 (by decide) (fun c118 => ?_) (fun c118 => ?_)
              · refine r_ild7 C (pc := 126) d_M_seat_126 ?_
                refine r_ild8 C (pc := 128) d_M_seat_128 ?_
                refine r_icmp_ge C (pc := 130) (tgt := 149) (by omega) (by omega) d_M_seat_130 (by decide) (fun c130 => ?_) (fun c130 => ?_)
                · refine r_ldc C (pc := 149) (z := (-900003)) k_805 rfl d_M_seat_149 ?_
                  exact r_iret C (pc := 151) hQ (⟨by unfold fSeat; (try simp only [Int.toNat_natCast]); first | (exfalso; omega) | (rw [if_neg (by omega), if_neg (by omega), if_pos (by omega)]) | (rw [if_neg (by omega), if_neg (by omega), if_neg (by omega), if_neg (by omega), if_pos (by omega)]), by unfold gSeat; (try simp only [Int.toNat_natCast]); first | (exfalso; omega) | (rw [if_neg (by omega)]; exact hR)⟩) d_M_seat_151
                · refine r_iconst C (pc := 133) d_M_seat_133 ?_
                  refine r_ild8 C (pc := 134) d_M_seat_134 ?_
                  refine r_ild7 C (pc := 136) d_M_seat_136 ?_
                  refine r_isub C (pc := 138) d_M_seat_138 ?_
                  refine r_imul C (pc := 139) d_M_seat_139 ?_
                  refine r_ald0 C (pc := 140) d_M_seat_140 ?_
                  refine gM_M_length C (pc := 141) hS k_640 d_M_seat_141 ?_
                  refine r_ild1 C (pc := 144) d_M_seat_144 ?_
                  refine M_ialdN C (pc := 145) hS (b) (by omega) rfl (by decide) (by omega) (by decide) d_M_seat_145 ?_
                  rw [e1]
                  refine r_icmp_ge C (pc := 146) (tgt := 152) (by omega) (by omega) d_M_seat_146 (by decide) (fun c146 => ?_) (fun c146 => ?_)
                  · refine r_ald0 C (pc := 152) d_M_seat_152 ?_
                    refine gM_M_seatAt C (pc := 153) hS k_645 d_M_seat_153 ?_
                    refine r_iconst C (pc := 156) d_M_seat_156 ?_
                    refine r_ild1 C (pc := 157) d_M_seat_157 ?_
                    refine r_imul C (pc := 158) d_M_seat_158 ?_
                    refine r_ild2 C (pc := 159) d_M_seat_159 ?_
                    refine r_iadd C (pc := 160) d_M_seat_160 ?_
                    refine M_ialdN C (pc := 161) hS (2 * b + s) (by omega) rfl (by decide) (by omega) (by decide) d_M_seat_161 ?_
                    rw [(hrs s (by omega)).1]
                    refine r_ist9 C (pc := 162) rfl d_M_seat_162 ?_
                    refine r_ald0 C (pc := 164) d_M_seat_164 ?_
                    refine gM_M_seatAt C (pc := 165) hS k_645 d_M_seat_165 ?_
                    refine r_iconst C (pc := 168) d_M_seat_168 ?_
                    refine r_ild1 C (pc := 169) d_M_seat_169 ?_
                    refine r_imul C (pc := 170) d_M_seat_170 ?_
                    refine r_ild2 C (pc := 171) d_M_seat_171 ?_
                    refine r_iadd C (pc := 172) d_M_seat_172 ?_
                    refine r_ild3 C (pc := 173) d_M_seat_173 ?_
                    refine M_iastN C (pc := 174) hS (2 * b + s) (by omega) rfl (by decide) (by omega) (by decide)  d_M_seat_174 ?_
                    refine r_ald0 C (pc := 175) d_M_seat_175 ?_
                    refine gM_M_seatOn C (pc := 176) hS k_646 d_M_seat_176 ?_
                    refine r_iconst C (pc := 179) d_M_seat_179 ?_
                    refine r_ild1 C (pc := 180) d_M_seat_180 ?_
                    refine r_imul C (pc := 181) d_M_seat_181 ?_
                    refine r_ild2 C (pc := 182) d_M_seat_182 ?_
                    refine r_iadd C (pc := 183) d_M_seat_183 ?_
                    refine r_ild4 C (pc := 184) d_M_seat_184 ?_
                    refine M_iastN C (pc := 186) hS (2 * b + s) (by omega) rfl (by decide) (by omega) (by decide)  d_M_seat_186 ?_
                    refine r_ald0 C (pc := 187) d_M_seat_187 ?_
                    refine gM_M_seatWhere C (pc := 188) hS k_647 d_M_seat_188 ?_
                    refine r_iconst C (pc := 191) d_M_seat_191 ?_
                    refine r_ild1 C (pc := 192) d_M_seat_192 ?_
                    refine r_imul C (pc := 193) d_M_seat_193 ?_
                    refine r_ild2 C (pc := 194) d_M_seat_194 ?_
                    refine r_iadd C (pc := 195) d_M_seat_195 ?_
                    refine r_ild5 C (pc := 196) d_M_seat_196 ?_
                    refine M_iastN C (pc := 198) hS (2 * b + s) (by omega) rfl (by decide) (by omega) (by decide)  d_M_seat_198 ?_
                    refine r_ild9 C (pc := 199) d_M_seat_199 ?_
                    exact r_iret C (pc := 201) hQ (⟨by unfold fSeat; (try simp only [Int.toNat_natCast]); first | (exfalso; omega) | (rw [if_neg (by omega), if_neg (by omega), if_neg (by omega), if_neg (by omega), if_neg (by omega)]), by unfold gSeat aSeat; (try simp only [Int.toNat_natCast]); first | (exfalso; omega) | (rw [if_pos (by omega)]; exact RM_seat hR hO hb (by omega))⟩) d_M_seat_201
                  · refine r_ldc C (pc := 149) (z := (-900003)) k_805 rfl d_M_seat_149 ?_
                    exact r_iret C (pc := 151) hQ (⟨by unfold fSeat; (try simp only [Int.toNat_natCast]); first | (exfalso; omega) | (rw [if_neg (by omega), if_neg (by omega), if_pos (by omega)]) | (rw [if_neg (by omega), if_neg (by omega), if_neg (by omega), if_neg (by omega), if_pos (by omega)]), by unfold gSeat; (try simp only [Int.toNat_natCast]); first | (exfalso; omega) | (rw [if_neg (by omega)]; exact hR)⟩) d_M_seat_151
              · refine r_ild6 C (pc := 121) d_M_seat_121 ?_
                refine r_ifeqB C (pc := 123) (tgt := 149) d_M_seat_123 (by decide) (fun c123 => ?_) (fun c123 => ?_)
                · refine r_ldc C (pc := 149) (z := (-900003)) k_805 rfl d_M_seat_149 ?_
                  exact r_iret C (pc := 151) hQ (⟨by unfold fSeat; (try simp only [Int.toNat_natCast]); first | (exfalso; omega) | (rw [if_neg (by omega), if_neg (by omega), if_pos (by omega)]) | (rw [if_neg (by omega), if_neg (by omega), if_neg (by omega), if_neg (by omega), if_pos (by omega)]), by unfold gSeat; (try simp only [Int.toNat_natCast]); first | (exfalso; omega) | (rw [if_neg (by omega)]; exact hR)⟩) d_M_seat_151
                · refine r_ild7 C (pc := 126) d_M_seat_126 ?_
                  refine r_ild8 C (pc := 128) d_M_seat_128 ?_
                  refine r_icmp_ge C (pc := 130) (tgt := 149) (by omega) (by omega) d_M_seat_130 (by decide) (fun c130 => ?_) (fun c130 => ?_)
                  · refine r_ldc C (pc := 149) (z := (-900003)) k_805 rfl d_M_seat_149 ?_
                    exact r_iret C (pc := 151) hQ (⟨by unfold fSeat; (try simp only [Int.toNat_natCast]); first | (exfalso; omega) | (rw [if_neg (by omega), if_neg (by omega), if_pos (by omega)]) | (rw [if_neg (by omega), if_neg (by omega), if_neg (by omega), if_neg (by omega), if_pos (by omega)]), by unfold gSeat; (try simp only [Int.toNat_natCast]); first | (exfalso; omega) | (rw [if_neg (by omega)]; exact hR)⟩) d_M_seat_151
                  · refine r_iconst C (pc := 133) d_M_seat_133 ?_
                    refine r_ild8 C (pc := 134) d_M_seat_134 ?_
                    refine r_ild7 C (pc := 136) d_M_seat_136 ?_
                    refine r_isub C (pc := 138) d_M_seat_138 ?_
                    refine r_imul C (pc := 139) d_M_seat_139 ?_
                    refine r_ald0 C (pc := 140) d_M_seat_140 ?_
                    refine gM_M_length C (pc := 141) hS k_640 d_M_seat_141 ?_
                    refine r_ild1 C (pc := 144) d_M_seat_144 ?_
                    refine M_ialdN C (pc := 145) hS (b) (by omega) rfl (by decide) (by omega) (by decide) d_M_seat_145 ?_
                    rw [e1]
                    refine r_icmp_ge C (pc := 146) (tgt := 152) (by omega) (by omega) d_M_seat_146 (by decide) (fun c146 => ?_) (fun c146 => ?_)
                    · refine r_ald0 C (pc := 152) d_M_seat_152 ?_
                      refine gM_M_seatAt C (pc := 153) hS k_645 d_M_seat_153 ?_
                      refine r_iconst C (pc := 156) d_M_seat_156 ?_
                      refine r_ild1 C (pc := 157) d_M_seat_157 ?_
                      refine r_imul C (pc := 158) d_M_seat_158 ?_
                      refine r_ild2 C (pc := 159) d_M_seat_159 ?_
                      refine r_iadd C (pc := 160) d_M_seat_160 ?_
                      refine M_ialdN C (pc := 161) hS (2 * b + s) (by omega) rfl (by decide) (by omega) (by decide) d_M_seat_161 ?_
                      rw [(hrs s (by omega)).1]
                      refine r_ist9 C (pc := 162) rfl d_M_seat_162 ?_
                      refine r_ald0 C (pc := 164) d_M_seat_164 ?_
                      refine gM_M_seatAt C (pc := 165) hS k_645 d_M_seat_165 ?_
                      refine r_iconst C (pc := 168) d_M_seat_168 ?_
                      refine r_ild1 C (pc := 169) d_M_seat_169 ?_
                      refine r_imul C (pc := 170) d_M_seat_170 ?_
                      refine r_ild2 C (pc := 171) d_M_seat_171 ?_
                      refine r_iadd C (pc := 172) d_M_seat_172 ?_
                      refine r_ild3 C (pc := 173) d_M_seat_173 ?_
                      refine M_iastN C (pc := 174) hS (2 * b + s) (by omega) rfl (by decide) (by omega) (by decide)  d_M_seat_174 ?_
                      refine r_ald0 C (pc := 175) d_M_seat_175 ?_
                      refine gM_M_seatOn C (pc := 176) hS k_646 d_M_seat_176 ?_
                      refine r_iconst C (pc := 179) d_M_seat_179 ?_
                      refine r_ild1 C (pc := 180) d_M_seat_180 ?_
                      refine r_imul C (pc := 181) d_M_seat_181 ?_
                      refine r_ild2 C (pc := 182) d_M_seat_182 ?_
                      refine r_iadd C (pc := 183) d_M_seat_183 ?_
                      refine r_ild4 C (pc := 184) d_M_seat_184 ?_
                      refine M_iastN C (pc := 186) hS (2 * b + s) (by omega) rfl (by decide) (by omega) (by decide)  d_M_seat_186 ?_
                      refine r_ald0 C (pc := 187) d_M_seat_187 ?_
                      refine gM_M_seatWhere C (pc := 188) hS k_647 d_M_seat_188 ?_
                      refine r_iconst C (pc := 191) d_M_seat_191 ?_
                      refine r_ild1 C (pc := 192) d_M_seat_192 ?_
                      refine r_imul C (pc := 193) d_M_seat_193 ?_
                      refine r_ild2 C (pc := 194) d_M_seat_194 ?_
                      refine r_iadd C (pc := 195) d_M_seat_195 ?_
                      refine r_ild5 C (pc := 196) d_M_seat_196 ?_
                      refine M_iastN C (pc := 198) hS (2 * b + s) (by omega) rfl (by decide) (by omega) (by decide)  d_M_seat_198 ?_
                      refine r_ild9 C (pc := 199) d_M_seat_199 ?_
                      exact r_iret C (pc := 201) hQ (⟨by unfold fSeat; (try simp only [Int.toNat_natCast]); first | (exfalso; omega) | (rw [if_neg (by omega), if_neg (by omega), if_neg (by omega), if_neg (by omega), if_neg (by omega)]), by unfold gSeat aSeat; (try simp only [Int.toNat_natCast]); first | (exfalso; omega) | (rw [if_pos (by omega)]; exact RM_seat hR hO hb (by omega))⟩) d_M_seat_201
                    · refine r_ldc C (pc := 149) (z := (-900003)) k_805 rfl d_M_seat_149 ?_
                      exact r_iret C (pc := 151) hQ (⟨by unfold fSeat; (try simp only [Int.toNat_natCast]); first | (exfalso; omega) | (rw [if_neg (by omega), if_neg (by omega), if_pos (by omega)]) | (rw [if_neg (by omega), if_neg (by omega), if_neg (by omega), if_neg (by omega), if_pos (by omega)]), by unfold gSeat; (try simp only [Int.toNat_natCast]); first | (exfalso; omega) | (rw [if_neg (by omega)]; exact hR)⟩) d_M_seat_151
          · have hsa : sAp S (b : Int) (s : Int) p = S.2 3 b 1 - p := by unfold sAp; rw [if_pos c77, if_pos c77]; rfl
            refine r_ild3 C (pc := 80) d_M_seat_80 ?_
            refine r_goto C (pc := 81) (tgt := 92) d_M_seat_81 (by decide) ?_
            refine r_ist7 C (pc := 92) rfl d_M_seat_92 ?_
            refine r_ild2 C (pc := 94) d_M_seat_94 ?_
            refine r_if_ne C (pc := 95) (tgt := 111) (by omega) d_M_seat_95 (by decide) (fun c95 => ?_) (fun c95 => ?_)
            · refine r_ild3 C (pc := 111) d_M_seat_111 ?_
              refine r_ist8 C (pc := 112) rfl d_M_seat_112 ?_
              refine r_ild4 C (pc := 114) d_M_seat_114 ?_
              refine r_ldc C (pc := 116) (z := (-900009)) k_796 rfl d_M_seat_116 ?_
              refine r_icmp_eq C (pc := 118) (tgt := 126) (by omega) (by omega) d_M_seat_118 (by decide) (fun c118 => ?_) (fun c118 => ?_)
              · refine r_ild7 C (pc := 126) d_M_seat_126 ?_
                refine r_ild8 C (pc := 128) d_M_seat_128 ?_
                refine r_icmp_ge C (pc := 130) (tgt := 149) (by omega) (by omega) d_M_seat_130 (by decide) (fun c130 => ?_) (fun c130 => ?_)
                · refine r_ldc C (pc := 149) (z := (-900003)) k_805 rfl d_M_seat_149 ?_
                  exact r_iret C (pc := 151) hQ (⟨by unfold fSeat; (try simp only [Int.toNat_natCast]); first | (exfalso; omega) | (rw [if_neg (by omega), if_neg (by omega), if_pos (by omega)]) | (rw [if_neg (by omega), if_neg (by omega), if_neg (by omega), if_neg (by omega), if_pos (by omega)]), by unfold gSeat; (try simp only [Int.toNat_natCast]); first | (exfalso; omega) | (rw [if_neg (by omega)]; exact hR)⟩) d_M_seat_151
                · refine r_iconst C (pc := 133) d_M_seat_133 ?_
                  refine r_ild8 C (pc := 134) d_M_seat_134 ?_
                  refine r_ild7 C (pc := 136) d_M_seat_136 ?_
                  refine r_isub C (pc := 138) d_M_seat_138 ?_
                  refine r_imul C (pc := 139) d_M_seat_139 ?_
                  refine r_ald0 C (pc := 140) d_M_seat_140 ?_
                  refine gM_M_length C (pc := 141) hS k_640 d_M_seat_141 ?_
                  refine r_ild1 C (pc := 144) d_M_seat_144 ?_
                  refine M_ialdN C (pc := 145) hS (b) (by omega) rfl (by decide) (by omega) (by decide) d_M_seat_145 ?_
                  rw [e1]
                  refine r_icmp_ge C (pc := 146) (tgt := 152) (by omega) (by omega) d_M_seat_146 (by decide) (fun c146 => ?_) (fun c146 => ?_)
                  · refine r_ald0 C (pc := 152) d_M_seat_152 ?_
                    refine gM_M_seatAt C (pc := 153) hS k_645 d_M_seat_153 ?_
                    refine r_iconst C (pc := 156) d_M_seat_156 ?_
                    refine r_ild1 C (pc := 157) d_M_seat_157 ?_
                    refine r_imul C (pc := 158) d_M_seat_158 ?_
                    refine r_ild2 C (pc := 159) d_M_seat_159 ?_
                    refine r_iadd C (pc := 160) d_M_seat_160 ?_
                    refine M_ialdN C (pc := 161) hS (2 * b + s) (by omega) rfl (by decide) (by omega) (by decide) d_M_seat_161 ?_
                    rw [(hrs s (by omega)).1]
                    refine r_ist9 C (pc := 162) rfl d_M_seat_162 ?_
                    refine r_ald0 C (pc := 164) d_M_seat_164 ?_
                    refine gM_M_seatAt C (pc := 165) hS k_645 d_M_seat_165 ?_
                    refine r_iconst C (pc := 168) d_M_seat_168 ?_
                    refine r_ild1 C (pc := 169) d_M_seat_169 ?_
                    refine r_imul C (pc := 170) d_M_seat_170 ?_
                    refine r_ild2 C (pc := 171) d_M_seat_171 ?_
                    refine r_iadd C (pc := 172) d_M_seat_172 ?_
                    refine r_ild3 C (pc := 173) d_M_seat_173 ?_
                    refine M_iastN C (pc := 174) hS (2 * b + s) (by omega) rfl (by decide) (by omega) (by decide)  d_M_seat_174 ?_
                    refine r_ald0 C (pc := 175) d_M_seat_175 ?_
                    refine gM_M_seatOn C (pc := 176) hS k_646 d_M_seat_176 ?_
                    refine r_iconst C (pc := 179) d_M_seat_179 ?_
                    refine r_ild1 C (pc := 180) d_M_seat_180 ?_
                    refine r_imul C (pc := 181) d_M_seat_181 ?_
                    refine r_ild2 C (pc := 182) d_M_seat_182 ?_
                    refine r_iadd C (pc := 183) d_M_seat_183 ?_
                    refine r_ild4 C (pc := 184) d_M_seat_184 ?_
                    refine M_iastN C (pc := 186) hS (2 * b + s) (by omega) rfl (by decide) (by omega) (by decide)  d_M_seat_186 ?_
                    refine r_ald0 C (pc := 187) d_M_seat_187 ?_
                    refine gM_M_seatWhere C (pc := 188) hS k_647 d_M_seat_188 ?_
                    refine r_iconst C (pc := 191) d_M_seat_191 ?_
                    refine r_ild1 C (pc := 192) d_M_seat_192 ?_
                    refine r_imul C (pc := 193) d_M_seat_193 ?_
                    refine r_ild2 C (pc := 194) d_M_seat_194 ?_
                    refine r_iadd C (pc := 195) d_M_seat_195 ?_
                    refine r_ild5 C (pc := 196) d_M_seat_196 ?_
                    refine M_iastN C (pc := 198) hS (2 * b + s) (by omega) rfl (by decide) (by omega) (by decide)  d_M_seat_198 ?_
                    refine r_ild9 C (pc := 199) d_M_seat_199 ?_
                    exact r_iret C (pc := 201) hQ (⟨by unfold fSeat; (try simp only [Int.toNat_natCast]); first | (exfalso; omega) | (rw [if_neg (by omega), if_neg (by omega), if_neg (by omega), if_neg (by omega), if_neg (by omega)]), by unfold gSeat aSeat; (try simp only [Int.toNat_natCast]); first | (exfalso; omega) | (rw [if_pos (by omega)]; exact RM_seat hR hO hb (by omega))⟩) d_M_seat_201
                  · refine r_ldc C (pc := 149) (z := (-900003)) k_805 rfl d_M_seat_149 ?_
                    exact r_iret C (pc := 151) hQ (⟨by unfold fSeat; (try simp only [Int.toNat_natCast]); first | (exfalso; omega) | (rw [if_neg (by omega), if_neg (by omega), if_pos (by omega)]) | (rw [if_neg (by omega), if_neg (by omega), if_neg (by omega), if_neg (by omega), if_pos (by omega)]), by unfold gSeat; (try simp only [Int.toNat_natCast]); first | (exfalso; omega) | (rw [if_neg (by omega)]; exact hR)⟩) d_M_seat_151
              · refine r_ild6 C (pc := 121) d_M_seat_121 ?_
                refine r_ifeqB C (pc := 123) (tgt := 149) d_M_seat_123 (by decide) (fun c123 => ?_) (fun c123 => ?_)
                · refine r_ldc C (pc := 149) (z := (-900003)) k_805 rfl d_M_seat_149 ?_
                  exact r_iret C (pc := 151) hQ (⟨by unfold fSeat; (try simp only [Int.toNat_natCast]); first | (exfalso; omega) | (rw [if_neg (by omega), if_neg (by omega), if_pos (by omega)]) | (rw [if_neg (by omega), if_neg (by omega), if_neg (by omega), if_neg (by omega), if_pos (by omega)]), by unfold gSeat; (try simp only [Int.toNat_natCast]); first | (exfalso; omega) | (rw [if_neg (by omega)]; exact hR)⟩) d_M_seat_151
                · refine r_ild7 C (pc := 126) d_M_seat_126 ?_
                  refine r_ild8 C (pc := 128) d_M_seat_128 ?_
                  refine r_icmp_ge C (pc := 130) (tgt := 149) (by omega) (by omega) d_M_seat_130 (by decide) (fun c130 => ?_) (fun c130 => ?_)
                  · refine r_ldc C (pc := 149) (z := (-900003)) k_805 rfl d_M_seat_149 ?_
                    exact r_iret C (pc := 151) hQ (⟨by unfold fSeat; (try simp only [Int.toNat_natCast]); first | (exfalso; omega) | (rw [if_neg (by omega), if_neg (by omega), if_pos (by omega)]) | (rw [if_neg (by omega), if_neg (by omega), if_neg (by omega), if_neg (by omega), if_pos (by omega)]), by unfold gSeat; (try simp only [Int.toNat_natCast]); first | (exfalso; omega) | (rw [if_neg (by omega)]; exact hR)⟩) d_M_seat_151
                  · refine r_iconst C (pc := 133) d_M_seat_133 ?_
                    refine r_ild8 C (pc := 134) d_M_seat_134 ?_
                    refine r_ild7 C (pc := 136) d_M_seat_136 ?_
                    refine r_isub C (pc := 138) d_M_seat_138 ?_
                    refine r_imul C (pc := 139) d_M_seat_139 ?_
                    refine r_ald0 C (pc := 140) d_M_seat_140 ?_
                    refine gM_M_length C (pc := 141) hS k_640 d_M_seat_141 ?_
                    refine r_ild1 C (pc := 144) d_M_seat_144 ?_
                    refine M_ialdN C (pc := 145) hS (b) (by omega) rfl (by decide) (by omega) (by decide) d_M_seat_145 ?_
                    rw [e1]
                    refine r_icmp_ge C (pc := 146) (tgt := 152) (by omega) (by omega) d_M_seat_146 (by decide) (fun c146 => ?_) (fun c146 => ?_)
                    · refine r_ald0 C (pc := 152) d_M_seat_152 ?_
                      refine gM_M_seatAt C (pc := 153) hS k_645 d_M_seat_153 ?_
                      refine r_iconst C (pc := 156) d_M_seat_156 ?_
                      refine r_ild1 C (pc := 157) d_M_seat_157 ?_
                      refine r_imul C (pc := 158) d_M_seat_158 ?_
                      refine r_ild2 C (pc := 159) d_M_seat_159 ?_
                      refine r_iadd C (pc := 160) d_M_seat_160 ?_
                      refine M_ialdN C (pc := 161) hS (2 * b + s) (by omega) rfl (by decide) (by omega) (by decide) d_M_seat_161 ?_
                      rw [(hrs s (by omega)).1]
                      refine r_ist9 C (pc := 162) rfl d_M_seat_162 ?_
                      refine r_ald0 C (pc := 164) d_M_seat_164 ?_
                      refine gM_M_seatAt C (pc := 165) hS k_645 d_M_seat_165 ?_
                      refine r_iconst C (pc := 168) d_M_seat_168 ?_
                      refine r_ild1 C (pc := 169) d_M_seat_169 ?_
                      refine r_imul C (pc := 170) d_M_seat_170 ?_
                      refine r_ild2 C (pc := 171) d_M_seat_171 ?_
                      refine r_iadd C (pc := 172) d_M_seat_172 ?_
                      refine r_ild3 C (pc := 173) d_M_seat_173 ?_
                      refine M_iastN C (pc := 174) hS (2 * b + s) (by omega) rfl (by decide) (by omega) (by decide)  d_M_seat_174 ?_
                      refine r_ald0 C (pc := 175) d_M_seat_175 ?_
                      refine gM_M_seatOn C (pc := 176) hS k_646 d_M_seat_176 ?_
                      refine r_iconst C (pc := 179) d_M_seat_179 ?_
                      refine r_ild1 C (pc := 180) d_M_seat_180 ?_
                      refine r_imul C (pc := 181) d_M_seat_181 ?_
                      refine r_ild2 C (pc := 182) d_M_seat_182 ?_
                      refine r_iadd C (pc := 183) d_M_seat_183 ?_
                      refine r_ild4 C (pc := 184) d_M_seat_184 ?_
                      refine M_iastN C (pc := 186) hS (2 * b + s) (by omega) rfl (by decide) (by omega) (by decide)  d_M_seat_186 ?_
                      refine r_ald0 C (pc := 187) d_M_seat_187 ?_
                      refine gM_M_seatWhere C (pc := 188) hS k_647 d_M_seat_188 ?_
                      refine r_iconst C (pc := 191) d_M_seat_191 ?_
                      refine r_ild1 C (pc := 192) d_M_seat_192 ?_
                      refine r_imul C (pc := 193) d_M_seat_193 ?_
                      refine r_ild2 C (pc := 194) d_M_seat_194 ?_
                      refine r_iadd C (pc := 195) d_M_seat_195 ?_
                      refine r_ild5 C (pc := 196) d_M_seat_196 ?_
                      refine M_iastN C (pc := 198) hS (2 * b + s) (by omega) rfl (by decide) (by omega) (by decide)  d_M_seat_198 ?_
                      refine r_ild9 C (pc := 199) d_M_seat_199 ?_
                      exact r_iret C (pc := 201) hQ (⟨by unfold fSeat; (try simp only [Int.toNat_natCast]); first | (exfalso; omega) | (rw [if_neg (by omega), if_neg (by omega), if_neg (by omega), if_neg (by omega), if_neg (by omega)]), by unfold gSeat aSeat; (try simp only [Int.toNat_natCast]); first | (exfalso; omega) | (rw [if_pos (by omega)]; exact RM_seat hR hO hb (by omega))⟩) d_M_seat_201
                    · refine r_ldc C (pc := 149) (z := (-900003)) k_805 rfl d_M_seat_149 ?_
                      exact r_iret C (pc := 151) hQ (⟨by unfold fSeat; (try simp only [Int.toNat_natCast]); first | (exfalso; omega) | (rw [if_neg (by omega), if_neg (by omega), if_pos (by omega)]) | (rw [if_neg (by omega), if_neg (by omega), if_neg (by omega), if_neg (by omega), if_pos (by omega)]), by unfold gSeat; (try simp only [Int.toNat_natCast]); first | (exfalso; omega) | (rw [if_neg (by omega)]; exact hR)⟩) d_M_seat_151
            · refine r_ald0 C (pc := 98) d_M_seat_98 ?_
              refine gM_M_seatAt C (pc := 99) hS k_645 d_M_seat_99 ?_
              refine r_iconst C (pc := 102) d_M_seat_102 ?_
              refine r_ild1 C (pc := 103) d_M_seat_103 ?_
              refine r_imul C (pc := 104) d_M_seat_104 ?_
              refine r_iconst C (pc := 105) d_M_seat_105 ?_
              refine r_iadd C (pc := 106) d_M_seat_106 ?_
              refine M_ialdN C (pc := 107) hS (2 * b + 1) (by omega) rfl (by decide) (by omega) (by decide) d_M_seat_107 ?_
              rw [hq1]
              refine r_goto C (pc := 108) (tgt := 112) d_M_seat_108 (by decide) ?_
              refine r_ist8 C (pc := 112) rfl d_M_seat_112 ?_
              refine r_ild4 C (pc := 114) d_M_seat_114 ?_
              refine r_ldc C (pc := 116) (z := (-900009)) k_796 rfl d_M_seat_116 ?_
              refine r_icmp_eq C (pc := 118) (tgt := 126) (by omega) (by omega) d_M_seat_118 (by decide) (fun c118 => ?_) (fun c118 => ?_)
              · refine r_ild7 C (pc := 126) d_M_seat_126 ?_
                refine r_ild8 C (pc := 128) d_M_seat_128 ?_
                refine r_icmp_ge C (pc := 130) (tgt := 149) (by omega) (by omega) d_M_seat_130 (by decide) (fun c130 => ?_) (fun c130 => ?_)
                · refine r_ldc C (pc := 149) (z := (-900003)) k_805 rfl d_M_seat_149 ?_
                  exact r_iret C (pc := 151) hQ (⟨by unfold fSeat; (try simp only [Int.toNat_natCast]); first | (exfalso; omega) | (rw [if_neg (by omega), if_neg (by omega), if_pos (by omega)]) | (rw [if_neg (by omega), if_neg (by omega), if_neg (by omega), if_neg (by omega), if_pos (by omega)]), by unfold gSeat; (try simp only [Int.toNat_natCast]); first | (exfalso; omega) | (rw [if_neg (by omega)]; exact hR)⟩) d_M_seat_151
                · refine r_iconst C (pc := 133) d_M_seat_133 ?_
                  refine r_ild8 C (pc := 134) d_M_seat_134 ?_
                  refine r_ild7 C (pc := 136) d_M_seat_136 ?_
                  refine r_isub C (pc := 138) d_M_seat_138 ?_
                  refine r_imul C (pc := 139) d_M_seat_139 ?_
                  refine r_ald0 C (pc := 140) d_M_seat_140 ?_
                  refine gM_M_length C (pc := 141) hS k_640 d_M_seat_141 ?_
                  refine r_ild1 C (pc := 144) d_M_seat_144 ?_
                  refine M_ialdN C (pc := 145) hS (b) (by omega) rfl (by decide) (by omega) (by decide) d_M_seat_145 ?_
                  rw [e1]
                  refine r_icmp_ge C (pc := 146) (tgt := 152) (by omega) (by omega) d_M_seat_146 (by decide) (fun c146 => ?_) (fun c146 => ?_)
                  · refine r_ald0 C (pc := 152) d_M_seat_152 ?_
                    refine gM_M_seatAt C (pc := 153) hS k_645 d_M_seat_153 ?_
                    refine r_iconst C (pc := 156) d_M_seat_156 ?_
                    refine r_ild1 C (pc := 157) d_M_seat_157 ?_
                    refine r_imul C (pc := 158) d_M_seat_158 ?_
                    refine r_ild2 C (pc := 159) d_M_seat_159 ?_
                    refine r_iadd C (pc := 160) d_M_seat_160 ?_
                    refine M_ialdN C (pc := 161) hS (2 * b + s) (by omega) rfl (by decide) (by omega) (by decide) d_M_seat_161 ?_
                    rw [(hrs s (by omega)).1]
                    refine r_ist9 C (pc := 162) rfl d_M_seat_162 ?_
                    refine r_ald0 C (pc := 164) d_M_seat_164 ?_
                    refine gM_M_seatAt C (pc := 165) hS k_645 d_M_seat_165 ?_
                    refine r_iconst C (pc := 168) d_M_seat_168 ?_
                    refine r_ild1 C (pc := 169) d_M_seat_169 ?_
                    refine r_imul C (pc := 170) d_M_seat_170 ?_
                    refine r_ild2 C (pc := 171) d_M_seat_171 ?_
                    refine r_iadd C (pc := 172) d_M_seat_172 ?_
                    refine r_ild3 C (pc := 173) d_M_seat_173 ?_
                    refine M_iastN C (pc := 174) hS (2 * b + s) (by omega) rfl (by decide) (by omega) (by decide)  d_M_seat_174 ?_
                    refine r_ald0 C (pc := 175) d_M_seat_175 ?_
                    refine gM_M_seatOn C (pc := 176) hS k_646 d_M_seat_176 ?_
                    refine r_iconst C (pc := 179) d_M_seat_179 ?_
                    refine r_ild1 C (pc := 180) d_M_seat_180 ?_
                    refine r_imul C (pc := 181) d_M_seat_181 ?_
                    refine r_ild2 C (pc := 182) d_M_seat_182 ?_
                    refine r_iadd C (pc := 183) d_M_seat_183 ?_
                    refine r_ild4 C (pc := 184) d_M_seat_184 ?_
                    refine M_iastN C (pc := 186) hS (2 * b + s) (by omega) rfl (by decide) (by omega) (by decide)  d_M_seat_186 ?_
                    refine r_ald0 C (pc := 187) d_M_seat_187 ?_
                    refine gM_M_seatWhere C (pc := 188) hS k_647 d_M_seat_188 ?_
                    refine r_iconst C (pc := 191) d_M_seat_191 ?_
                    refine r_ild1 C (pc := 192) d_M_seat_192 ?_
                    refine r_imul C (pc := 193) d_M_seat_193 ?_
                    refine r_ild2 C (pc := 194) d_M_seat_194 ?_
                    refine r_iadd C (pc := 195) d_M_seat_195 ?_
                    refine r_ild5 C (pc := 196) d_M_seat_196 ?_
                    refine M_iastN C (pc := 198) hS (2 * b + s) (by omega) rfl (by decide) (by omega) (by decide)  d_M_seat_198 ?_
                    refine r_ild9 C (pc := 199) d_M_seat_199 ?_
                    exact r_iret C (pc := 201) hQ (⟨by unfold fSeat; (try simp only [Int.toNat_natCast]); first | (exfalso; omega) | (rw [if_neg (by omega), if_neg (by omega), if_neg (by omega), if_neg (by omega), if_neg (by omega)]), by unfold gSeat aSeat; (try simp only [Int.toNat_natCast]); first | (exfalso; omega) | (rw [if_pos (by omega)]; exact RM_seat hR hO hb (by omega))⟩) d_M_seat_201
                  · refine r_ldc C (pc := 149) (z := (-900003)) k_805 rfl d_M_seat_149 ?_
                    exact r_iret C (pc := 151) hQ (⟨by unfold fSeat; (try simp only [Int.toNat_natCast]); first | (exfalso; omega) | (rw [if_neg (by omega), if_neg (by omega), if_pos (by omega)]) | (rw [if_neg (by omega), if_neg (by omega), if_neg (by omega), if_neg (by omega), if_pos (by omega)]), by unfold gSeat; (try simp only [Int.toNat_natCast]); first | (exfalso; omega) | (rw [if_neg (by omega)]; exact hR)⟩) d_M_seat_151
              · refine r_ild6 C (pc := 121) d_M_seat_121 ?_
                refine r_ifeqB C (pc := 123) (tgt := 149) d_M_seat_123 (by decide) (fun c123 => ?_) (fun c123 => ?_)
                · refine r_ldc C (pc := 149) (z := (-900003)) k_805 rfl d_M_seat_149 ?_
                  exact r_iret C (pc := 151) hQ (⟨by unfold fSeat; (try simp only [Int.toNat_natCast]); first | (exfalso; omega) | (rw [if_neg (by omega), if_neg (by omega), if_pos (by omega)]) | (rw [if_neg (by omega), if_neg (by omega), if_neg (by omega), if_neg (by omega), if_pos (by omega)]), by unfold gSeat; (try simp only [Int.toNat_natCast]); first | (exfalso; omega) | (rw [if_neg (by omega)]; exact hR)⟩) d_M_seat_151
                · refine r_ild7 C (pc := 126) d_M_seat_126 ?_
                  refine r_ild8 C (pc := 128) d_M_seat_128 ?_
                  refine r_icmp_ge C (pc := 130) (tgt := 149) (by omega) (by omega) d_M_seat_130 (by decide) (fun c130 => ?_) (fun c130 => ?_)
                  · refine r_ldc C (pc := 149) (z := (-900003)) k_805 rfl d_M_seat_149 ?_
                    exact r_iret C (pc := 151) hQ (⟨by unfold fSeat; (try simp only [Int.toNat_natCast]); first | (exfalso; omega) | (rw [if_neg (by omega), if_neg (by omega), if_pos (by omega)]) | (rw [if_neg (by omega), if_neg (by omega), if_neg (by omega), if_neg (by omega), if_pos (by omega)]), by unfold gSeat; (try simp only [Int.toNat_natCast]); first | (exfalso; omega) | (rw [if_neg (by omega)]; exact hR)⟩) d_M_seat_151
                  · refine r_iconst C (pc := 133) d_M_seat_133 ?_
                    refine r_ild8 C (pc := 134) d_M_seat_134 ?_
                    refine r_ild7 C (pc := 136) d_M_seat_136 ?_
                    refine r_isub C (pc := 138) d_M_seat_138 ?_
                    refine r_imul C (pc := 139) d_M_seat_139 ?_
                    refine r_ald0 C (pc := 140) d_M_seat_140 ?_
                    refine gM_M_length C (pc := 141) hS k_640 d_M_seat_141 ?_
                    refine r_ild1 C (pc := 144) d_M_seat_144 ?_
                    refine M_ialdN C (pc := 145) hS (b) (by omega) rfl (by decide) (by omega) (by decide) d_M_seat_145 ?_
                    rw [e1]
                    refine r_icmp_ge C (pc := 146) (tgt := 152) (by omega) (by omega) d_M_seat_146 (by decide) (fun c146 => ?_) (fun c146 => ?_)
                    · refine r_ald0 C (pc := 152) d_M_seat_152 ?_
                      refine gM_M_seatAt C (pc := 153) hS k_645 d_M_seat_153 ?_
                      refine r_iconst C (pc := 156) d_M_seat_156 ?_
                      refine r_ild1 C (pc := 157) d_M_seat_157 ?_
                      refine r_imul C (pc := 158) d_M_seat_158 ?_
                      refine r_ild2 C (pc := 159) d_M_seat_159 ?_
                      refine r_iadd C (pc := 160) d_M_seat_160 ?_
                      refine M_ialdN C (pc := 161) hS (2 * b + s) (by omega) rfl (by decide) (by omega) (by decide) d_M_seat_161 ?_
                      rw [(hrs s (by omega)).1]
                      refine r_ist9 C (pc := 162) rfl d_M_seat_162 ?_
                      refine r_ald0 C (pc := 164) d_M_seat_164 ?_
                      refine gM_M_seatAt C (pc := 165) hS k_645 d_M_seat_165 ?_
                      refine r_iconst C (pc := 168) d_M_seat_168 ?_
                      refine r_ild1 C (pc := 169) d_M_seat_169 ?_
                      refine r_imul C (pc := 170) d_M_seat_170 ?_
                      refine r_ild2 C (pc := 171) d_M_seat_171 ?_
                      refine r_iadd C (pc := 172) d_M_seat_172 ?_
                      refine r_ild3 C (pc := 173) d_M_seat_173 ?_
                      refine M_iastN C (pc := 174) hS (2 * b + s) (by omega) rfl (by decide) (by omega) (by decide)  d_M_seat_174 ?_
                      refine r_ald0 C (pc := 175) d_M_seat_175 ?_
                      refine gM_M_seatOn C (pc := 176) hS k_646 d_M_seat_176 ?_
                      refine r_iconst C (pc := 179) d_M_seat_179 ?_
                      refine r_ild1 C (pc := 180) d_M_seat_180 ?_
                      refine r_imul C (pc := 181) d_M_seat_181 ?_
                      refine r_ild2 C (pc := 182) d_M_seat_182 ?_
                      refine r_iadd C (pc := 183) d_M_seat_183 ?_
                      refine r_ild4 C (pc := 184) d_M_seat_184 ?_
                      refine M_iastN C (pc := 186) hS (2 * b + s) (by omega) rfl (by decide) (by omega) (by decide)  d_M_seat_186 ?_
                      refine r_ald0 C (pc := 187) d_M_seat_187 ?_
                      refine gM_M_seatWhere C (pc := 188) hS k_647 d_M_seat_188 ?_
                      refine r_iconst C (pc := 191) d_M_seat_191 ?_
                      refine r_ild1 C (pc := 192) d_M_seat_192 ?_
                      refine r_imul C (pc := 193) d_M_seat_193 ?_
                      refine r_ild2 C (pc := 194) d_M_seat_194 ?_
                      refine r_iadd C (pc := 195) d_M_seat_195 ?_
                      refine r_ild5 C (pc := 196) d_M_seat_196 ?_
                      refine M_iastN C (pc := 198) hS (2 * b + s) (by omega) rfl (by decide) (by omega) (by decide)  d_M_seat_198 ?_
                      refine r_ild9 C (pc := 199) d_M_seat_199 ?_
                      exact r_iret C (pc := 201) hQ (⟨by unfold fSeat; (try simp only [Int.toNat_natCast]); first | (exfalso; omega) | (rw [if_neg (by omega), if_neg (by omega), if_neg (by omega), if_neg (by omega), if_neg (by omega)]), by unfold gSeat aSeat; (try simp only [Int.toNat_natCast]); first | (exfalso; omega) | (rw [if_pos (by omega)]; exact RM_seat hR hO hb (by omega))⟩) d_M_seat_201
                    · refine r_ldc C (pc := 149) (z := (-900003)) k_805 rfl d_M_seat_149 ?_
                      exact r_iret C (pc := 151) hQ (⟨by unfold fSeat; (try simp only [Int.toNat_natCast]); first | (exfalso; omega) | (rw [if_neg (by omega), if_neg (by omega), if_pos (by omega)]) | (rw [if_neg (by omega), if_neg (by omega), if_neg (by omega), if_neg (by omega), if_pos (by omega)]), by unfold gSeat; (try simp only [Int.toNat_natCast]); first | (exfalso; omega) | (rw [if_neg (by omega)]; exact hR)⟩) d_M_seat_151
        · have hno := (hO.2.2.1 n.toNat (by omega)).2.1
          have hne := (hR.2.2.1 n.toNat (by omega)).1.2.1
          refine r_ild5 C (pc := 55) d_M_seat_55 ?_
          refine r_i2l C (pc := 57) (by omega) d_M_seat_57 ?_
          refine r_lconst C (pc := 58) (v := 0) rfl d_M_seat_58 ?_
          refine r_ald0 C (pc := 59) d_M_seat_59 ?_
          refine gM_M_length C (pc := 60) hS k_640 d_M_seat_60 ?_
          refine r_ild4 C (pc := 63) d_M_seat_63 ?_
          refine M_ialdN C (pc := 65) hS (n.toNat) (by omega) rfl (by decide) (by omega) (by decide) d_M_seat_65 ?_
          rw [hne]
          refine r_i2l C (pc := 66) (by omega) d_M_seat_66 ?_
          refine call_M_in C (pc := 67) hS (c_M_in _ _ _ _ (0) _ (by omega) (by omega) (by omega)) k_777 (by decide) (Nat.le_of_ble_eq_true rfl) rfl d_M_seat_67 (kkI (fun r67 N67 h67 => ?_))
          obtain ⟨rfl, rfl⟩ := h67
          refine r_ifneB C (pc := 70) (tgt := 76) d_M_seat_70 (by decide) (fun c70 => ?_) (fun c70 => ?_)
          · refine r_ild2 C (pc := 76) d_M_seat_76 ?_
            refine r_if_ne C (pc := 77) (tgt := 84) (by omega) d_M_seat_77 (by decide) (fun c77 => ?_) (fun c77 => ?_)
            · have hsa : sAp S (b : Int) (s : Int) p = p - S.2 3 b 0 := by unfold sAp; rw [if_neg c77, if_neg c77]; rfl
              refine r_ald0 C (pc := 84) d_M_seat_84 ?_
              refine gM_M_seatAt C (pc := 85) hS k_645 d_M_seat_85 ?_
              refine r_iconst C (pc := 88) d_M_seat_88 ?_
              refine r_ild1 C (pc := 89) d_M_seat_89 ?_
              refine r_imul C (pc := 90) d_M_seat_90 ?_
              refine M_ialdN C (pc := 91) hS (2 * b) (by omega) rfl (by decide) (by omega) (by decide) d_M_seat_91 ?_
              rw [hq0]
              refine r_ist7 C (pc := 92) rfl d_M_seat_92 ?_
              refine r_ild2 C (pc := 94) d_M_seat_94 ?_
              refine r_if_ne C (pc := 95) (tgt := 111) (by omega) d_M_seat_95 (by decide) (fun c95 => ?_) (fun c95 => ?_)
              · refine r_ild3 C (pc := 111) d_M_seat_111 ?_
                refine r_ist8 C (pc := 112) rfl d_M_seat_112 ?_
                refine r_ild4 C (pc := 114) d_M_seat_114 ?_
                refine r_ldc C (pc := 116) (z := (-900009)) k_796 rfl d_M_seat_116 ?_
                refine r_icmp_eq C (pc := 118) (tgt := 126) (by omega) (by omega) d_M_seat_118 (by decide) (fun c118 => ?_) (fun c118 => ?_)
                · refine r_ild7 C (pc := 126) d_M_seat_126 ?_
                  refine r_ild8 C (pc := 128) d_M_seat_128 ?_
                  refine r_icmp_ge C (pc := 130) (tgt := 149) (by omega) (by omega) d_M_seat_130 (by decide) (fun c130 => ?_) (fun c130 => ?_)
                  · refine r_ldc C (pc := 149) (z := (-900003)) k_805 rfl d_M_seat_149 ?_
                    exact r_iret C (pc := 151) hQ (⟨by unfold fSeat; (try simp only [Int.toNat_natCast]); first | (exfalso; omega) | (rw [if_neg (by omega), if_neg (by omega), if_pos (by omega)]) | (rw [if_neg (by omega), if_neg (by omega), if_neg (by omega), if_neg (by omega), if_pos (by omega)]), by unfold gSeat; (try simp only [Int.toNat_natCast]); first | (exfalso; omega) | (rw [if_neg (by omega)]; exact hR)⟩) d_M_seat_151
                  · refine r_iconst C (pc := 133) d_M_seat_133 ?_
                    refine r_ild8 C (pc := 134) d_M_seat_134 ?_
                    refine r_ild7 C (pc := 136) d_M_seat_136 ?_
                    refine r_isub C (pc := 138) d_M_seat_138 ?_
                    refine r_imul C (pc := 139) d_M_seat_139 ?_
                    refine r_ald0 C (pc := 140) d_M_seat_140 ?_
                    refine gM_M_length C (pc := 141) hS k_640 d_M_seat_141 ?_
                    refine r_ild1 C (pc := 144) d_M_seat_144 ?_
                    refine M_ialdN C (pc := 145) hS (b) (by omega) rfl (by decide) (by omega) (by decide) d_M_seat_145 ?_
                    rw [e1]
                    refine r_icmp_ge C (pc := 146) (tgt := 152) (by omega) (by omega) d_M_seat_146 (by decide) (fun c146 => ?_) (fun c146 => ?_)
                    · refine r_ald0 C (pc := 152) d_M_seat_152 ?_
                      refine gM_M_seatAt C (pc := 153) hS k_645 d_M_seat_153 ?_
                      refine r_iconst C (pc := 156) d_M_seat_156 ?_
                      refine r_ild1 C (pc := 157) d_M_seat_157 ?_
                      refine r_imul C (pc := 158) d_M_seat_158 ?_
                      refine r_ild2 C (pc := 159) d_M_seat_159 ?_
                      refine r_iadd C (pc := 160) d_M_seat_160 ?_
                      refine M_ialdN C (pc := 161) hS (2 * b + s) (by omega) rfl (by decide) (by omega) (by decide) d_M_seat_161 ?_
                      rw [(hrs s (by omega)).1]
                      refine r_ist9 C (pc := 162) rfl d_M_seat_162 ?_
                      refine r_ald0 C (pc := 164) d_M_seat_164 ?_
                      refine gM_M_seatAt C (pc := 165) hS k_645 d_M_seat_165 ?_
                      refine r_iconst C (pc := 168) d_M_seat_168 ?_
                      refine r_ild1 C (pc := 169) d_M_seat_169 ?_
                      refine r_imul C (pc := 170) d_M_seat_170 ?_
                      refine r_ild2 C (pc := 171) d_M_seat_171 ?_
                      refine r_iadd C (pc := 172) d_M_seat_172 ?_
                      refine r_ild3 C (pc := 173) d_M_seat_173 ?_
                      refine M_iastN C (pc := 174) hS (2 * b + s) (by omega) rfl (by decide) (by omega) (by decide)  d_M_seat_174 ?_
                      refine r_ald0 C (pc := 175) d_M_seat_175 ?_
                      refine gM_M_seatOn C (pc := 176) hS k_646 d_M_seat_176 ?_
                      refine r_iconst C (pc := 179) d_M_seat_179 ?_
                      refine r_ild1 C (pc := 180) d_M_seat_180 ?_
                      refine r_imul C (pc := 181) d_M_seat_181 ?_
                      refine r_ild2 C (pc := 182) d_M_seat_182 ?_
                      refine r_iadd C (pc := 183) d_M_seat_183 ?_
                      refine r_ild4 C (pc := 184) d_M_seat_184 ?_
                      refine M_iastN C (pc := 186) hS (2 * b + s) (by omega) rfl (by decide) (by omega) (by decide)  d_M_seat_186 ?_
                      refine r_ald0 C (pc := 187) d_M_seat_187 ?_
                      refine gM_M_seatWhere C (pc := 188) hS k_647 d_M_seat_188 ?_
                      refine r_iconst C (pc := 191) d_M_seat_191 ?_
                      refine r_ild1 C (pc := 192) d_M_seat_192 ?_
                      refine r_imul C (pc := 193) d_M_seat_193 ?_
                      refine r_ild2 C (pc := 194) d_M_seat_194 ?_
                      refine r_iadd C (pc := 195) d_M_seat_195 ?_
                      refine r_ild5 C (pc := 196) d_M_seat_196 ?_
                      refine M_iastN C (pc := 198) hS (2 * b + s) (by omega) rfl (by decide) (by omega) (by decide)  d_M_seat_198 ?_
                      refine r_ild9 C (pc := 199) d_M_seat_199 ?_
                      exact r_iret C (pc := 201) hQ (⟨by unfold fSeat; (try simp only [Int.toNat_natCast]); first | (exfalso; omega) | (rw [if_neg (by omega), if_neg (by omega), if_neg (by omega), if_neg (by omega), if_neg (by omega)]), by unfold gSeat aSeat; (try simp only [Int.toNat_natCast]); first | (exfalso; omega) | (rw [if_pos (by omega)]; exact RM_seat hR hO hb (by omega))⟩) d_M_seat_201
                    · refine r_ldc C (pc := 149) (z := (-900003)) k_805 rfl d_M_seat_149 ?_
                      exact r_iret C (pc := 151) hQ (⟨by unfold fSeat; (try simp only [Int.toNat_natCast]); first | (exfalso; omega) | (rw [if_neg (by omega), if_neg (by omega), if_pos (by omega)]) | (rw [if_neg (by omega), if_neg (by omega), if_neg (by omega), if_neg (by omega), if_pos (by omega)]), by unfold gSeat; (try simp only [Int.toNat_natCast]); first | (exfalso; omega) | (rw [if_neg (by omega)]; exact hR)⟩) d_M_seat_151
                · refine r_ild6 C (pc := 121) d_M_seat_121 ?_
                  refine r_ifeqB C (pc := 123) (tgt := 149) d_M_seat_123 (by decide) (fun c123 => ?_) (fun c123 => ?_)
                  · refine r_ldc C (pc := 149) (z := (-900003)) k_805 rfl d_M_seat_149 ?_
                    exact r_iret C (pc := 151) hQ (⟨by unfold fSeat; (try simp only [Int.toNat_natCast]); first | (exfalso; omega) | (rw [if_neg (by omega), if_neg (by omega), if_pos (by omega)]) | (rw [if_neg (by omega), if_neg (by omega), if_neg (by omega), if_neg (by omega), if_pos (by omega)]), by unfold gSeat; (try simp only [Int.toNat_natCast]); first | (exfalso; omega) | (rw [if_neg (by omega)]; exact hR)⟩) d_M_seat_151
                  · refine r_ild7 C (pc := 126) d_M_seat_126 ?_
                    refine r_ild8 C (pc := 128) d_M_seat_128 ?_
                    refine r_icmp_ge C (pc := 130) (tgt := 149) (by omega) (by omega) d_M_seat_130 (by decide) (fun c130 => ?_) (fun c130 => ?_)
                    · refine r_ldc C (pc := 149) (z := (-900003)) k_805 rfl d_M_seat_149 ?_
                      exact r_iret C (pc := 151) hQ (⟨by unfold fSeat; (try simp only [Int.toNat_natCast]); first | (exfalso; omega) | (rw [if_neg (by omega), if_neg (by omega), if_pos (by omega)]) | (rw [if_neg (by omega), if_neg (by omega), if_neg (by omega), if_neg (by omega), if_pos (by omega)]), by unfold gSeat; (try simp only [Int.toNat_natCast]); first | (exfalso; omega) | (rw [if_neg (by omega)]; exact hR)⟩) d_M_seat_151
                    · refine r_iconst C (pc := 133) d_M_seat_133 ?_
                      refine r_ild8 C (pc := 134) d_M_seat_134 ?_
                      refine r_ild7 C (pc := 136) d_M_seat_136 ?_
                      refine r_isub C (pc := 138) d_M_seat_138 ?_
                      refine r_imul C (pc := 139) d_M_seat_139 ?_
                      refine r_ald0 C (pc := 140) d_M_seat_140 ?_
                      refine gM_M_length C (pc := 141) hS k_640 d_M_seat_141 ?_
                      refine r_ild1 C (pc := 144) d_M_seat_144 ?_
                      refine M_ialdN C (pc := 145) hS (b) (by omega) rfl (by decide) (by omega) (by decide) d_M_seat_145 ?_
                      rw [e1]
                      refine r_icmp_ge C (pc := 146) (tgt := 152) (by omega) (by omega) d_M_seat_146 (by decide) (fun c146 => ?_) (fun c146 => ?_)
                      · refine r_ald0 C (pc := 152) d_M_seat_152 ?_
                        refine gM_M_seatAt C (pc := 153) hS k_645 d_M_seat_153 ?_
                        refine r_iconst C (pc := 156) d_M_seat_156 ?_
                        refine r_ild1 C (pc := 157) d_M_seat_157 ?_
                        refine r_imul C (pc := 158) d_M_seat_158 ?_
                        refine r_ild2 C (pc := 159) d_M_seat_159 ?_
                        refine r_iadd C (pc := 160) d_M_seat_160 ?_
                        refine M_ialdN C (pc := 161) hS (2 * b + s) (by omega) rfl (by decide) (by omega) (by decide) d_M_seat_161 ?_
                        rw [(hrs s (by omega)).1]
                        refine r_ist9 C (pc := 162) rfl d_M_seat_162 ?_
                        refine r_ald0 C (pc := 164) d_M_seat_164 ?_
                        refine gM_M_seatAt C (pc := 165) hS k_645 d_M_seat_165 ?_
                        refine r_iconst C (pc := 168) d_M_seat_168 ?_
                        refine r_ild1 C (pc := 169) d_M_seat_169 ?_
                        refine r_imul C (pc := 170) d_M_seat_170 ?_
                        refine r_ild2 C (pc := 171) d_M_seat_171 ?_
                        refine r_iadd C (pc := 172) d_M_seat_172 ?_
                        refine r_ild3 C (pc := 173) d_M_seat_173 ?_
                        refine M_iastN C (pc := 174) hS (2 * b + s) (by omega) rfl (by decide) (by omega) (by decide)  d_M_seat_174 ?_
                        refine r_ald0 C (pc := 175) d_M_seat_175 ?_
                        refine gM_M_seatOn C (pc := 176) hS k_646 d_M_seat_176 ?_
                        refine r_iconst C (pc := 179) d_M_seat_179 ?_
                        refine r_ild1 C (pc := 180) d_M_seat_180 ?_
                        refine r_imul C (pc := 181) d_M_seat_181 ?_
                        refine r_ild2 C (pc := 182) d_M_seat_182 ?_
                        refine r_iadd C (pc := 183) d_M_seat_183 ?_
                        refine r_ild4 C (pc := 184) d_M_seat_184 ?_
                        refine M_iastN C (pc := 186) hS (2 * b + s) (by omega) rfl (by decide) (by omega) (by decide)  d_M_seat_186 ?_
                        refine r_ald0 C (pc := 187) d_M_seat_187 ?_
                        refine gM_M_seatWhere C (pc := 188) hS k_647 d_M_seat_188 ?_
                        refine r_iconst C (pc := 191) d_M_seat_191 ?_
                        refine r_ild1 C (pc := 192) d_M_seat_192 ?_
                        refine r_imul C (pc := 193) d_M_seat_193 ?_
                        refine r_ild2 C (pc := 194) d_M_seat_194 ?_
                        refine r_iadd C (pc := 195) d_M_seat_195 ?_
                        refine r_ild5 C (pc := 196) d_M_seat_196 ?_
                        refine M_iastN C (pc := 198) hS (2 * b + s) (by omega) rfl (by decide) (by omega) (by decide)  d_M_seat_198 ?_
                        refine r_ild9 C (pc := 199) d_M_seat_199 ?_
                        exact r_iret C (pc := 201) hQ (⟨by unfold fSeat; (try simp only [Int.toNat_natCast]); first | (exfalso; omega) | (rw [if_neg (by omega), if_neg (by omega), if_neg (by omega), if_neg (by omega), if_neg (by omega)]), by unfold gSeat aSeat; (try simp only [Int.toNat_natCast]); first | (exfalso; omega) | (rw [if_pos (by omega)]; exact RM_seat hR hO hb (by omega))⟩) d_M_seat_201
                      · refine r_ldc C (pc := 149) (z := (-900003)) k_805 rfl d_M_seat_149 ?_
                        exact r_iret C (pc := 151) hQ (⟨by unfold fSeat; (try simp only [Int.toNat_natCast]); first | (exfalso; omega) | (rw [if_neg (by omega), if_neg (by omega), if_pos (by omega)]) | (rw [if_neg (by omega), if_neg (by omega), if_neg (by omega), if_neg (by omega), if_pos (by omega)]), by unfold gSeat; (try simp only [Int.toNat_natCast]); first | (exfalso; omega) | (rw [if_neg (by omega)]; exact hR)⟩) d_M_seat_151
              · refine r_ald0 C (pc := 98) d_M_seat_98 ?_
                refine gM_M_seatAt C (pc := 99) hS k_645 d_M_seat_99 ?_
                refine r_iconst C (pc := 102) d_M_seat_102 ?_
                refine r_ild1 C (pc := 103) d_M_seat_103 ?_
                refine r_imul C (pc := 104) d_M_seat_104 ?_
                refine r_iconst C (pc := 105) d_M_seat_105 ?_
                refine r_iadd C (pc := 106) d_M_seat_106 ?_
                refine M_ialdN C (pc := 107) hS (2 * b + 1) (by omega) rfl (by decide) (by omega) (by decide) d_M_seat_107 ?_
                rw [hq1]
                refine r_goto C (pc := 108) (tgt := 112) d_M_seat_108 (by decide) ?_
                refine r_ist8 C (pc := 112) rfl d_M_seat_112 ?_
                refine r_ild4 C (pc := 114) d_M_seat_114 ?_
                refine r_ldc C (pc := 116) (z := (-900009)) k_796 rfl d_M_seat_116 ?_
                refine r_icmp_eq C (pc := 118) (tgt := 126) (by omega) (by omega) d_M_seat_118 (by decide) (fun c118 => ?_) (fun c118 => ?_)
                · refine r_ild7 C (pc := 126) d_M_seat_126 ?_
                  refine r_ild8 C (pc := 128) d_M_seat_128 ?_
                  refine r_icmp_ge C (pc := 130) (tgt := 149) (by omega) (by omega) d_M_seat_130 (by decide) (fun c130 => ?_) (fun c130 => ?_)
                  · refine r_ldc C (pc := 149) (z := (-900003)) k_805 rfl d_M_seat_149 ?_
                    exact r_iret C (pc := 151) hQ (⟨by unfold fSeat; (try simp only [Int.toNat_natCast]); first | (exfalso; omega) | (rw [if_neg (by omega), if_neg (by omega), if_pos (by omega)]) | (rw [if_neg (by omega), if_neg (by omega), if_neg (by omega), if_neg (by omega), if_pos (by omega)]), by unfold gSeat; (try simp only [Int.toNat_natCast]); first | (exfalso; omega) | (rw [if_neg (by omega)]; exact hR)⟩) d_M_seat_151
                  · refine r_iconst C (pc := 133) d_M_seat_133 ?_
                    refine r_ild8 C (pc := 134) d_M_seat_134 ?_
                    refine r_ild7 C (pc := 136) d_M_seat_136 ?_
                    refine r_isub C (pc := 138) d_M_seat_138 ?_
                    refine r_imul C (pc := 139) d_M_seat_139 ?_
                    refine r_ald0 C (pc := 140) d_M_seat_140 ?_
                    refine gM_M_length C (pc := 141) hS k_640 d_M_seat_141 ?_
                    refine r_ild1 C (pc := 144) d_M_seat_144 ?_
                    refine M_ialdN C (pc := 145) hS (b) (by omega) rfl (by decide) (by omega) (by decide) d_M_seat_145 ?_
                    rw [e1]
                    refine r_icmp_ge C (pc := 146) (tgt := 152) (by omega) (by omega) d_M_seat_146 (by decide) (fun c146 => ?_) (fun c146 => ?_)
                    · refine r_ald0 C (pc := 152) d_M_seat_152 ?_
                      refine gM_M_seatAt C (pc := 153) hS k_645 d_M_seat_153 ?_
                      refine r_iconst C (pc := 156) d_M_seat_156 ?_
                      refine r_ild1 C (pc := 157) d_M_seat_157 ?_
                      refine r_imul C (pc := 158) d_M_seat_158 ?_
                      refine r_ild2 C (pc := 159) d_M_seat_159 ?_
                      refine r_iadd C (pc := 160) d_M_seat_160 ?_
                      refine M_ialdN C (pc := 161) hS (2 * b + s) (by omega) rfl (by decide) (by omega) (by decide) d_M_seat_161 ?_
                      rw [(hrs s (by omega)).1]
                      refine r_ist9 C (pc := 162) rfl d_M_seat_162 ?_
                      refine r_ald0 C (pc := 164) d_M_seat_164 ?_
                      refine gM_M_seatAt C (pc := 165) hS k_645 d_M_seat_165 ?_
                      refine r_iconst C (pc := 168) d_M_seat_168 ?_
                      refine r_ild1 C (pc := 169) d_M_seat_169 ?_
                      refine r_imul C (pc := 170) d_M_seat_170 ?_
                      refine r_ild2 C (pc := 171) d_M_seat_171 ?_
                      refine r_iadd C (pc := 172) d_M_seat_172 ?_
                      refine r_ild3 C (pc := 173) d_M_seat_173 ?_
                      refine M_iastN C (pc := 174) hS (2 * b + s) (by omega) rfl (by decide) (by omega) (by decide)  d_M_seat_174 ?_
                      refine r_ald0 C (pc := 175) d_M_seat_175 ?_
                      refine gM_M_seatOn C (pc := 176) hS k_646 d_M_seat_176 ?_
                      refine r_iconst C (pc := 179) d_M_seat_179 ?_
                      refine r_ild1 C (pc := 180) d_M_seat_180 ?_
                      refine r_imul C (pc := 181) d_M_seat_181 ?_
                      refine r_ild2 C (pc := 182) d_M_seat_182 ?_
                      refine r_iadd C (pc := 183) d_M_seat_183 ?_
                      refine r_ild4 C (pc := 184) d_M_seat_184 ?_
                      refine M_iastN C (pc := 186) hS (2 * b + s) (by omega) rfl (by decide) (by omega) (by decide)  d_M_seat_186 ?_
                      refine r_ald0 C (pc := 187) d_M_seat_187 ?_
                      refine gM_M_seatWhere C (pc := 188) hS k_647 d_M_seat_188 ?_
                      refine r_iconst C (pc := 191) d_M_seat_191 ?_
                      refine r_ild1 C (pc := 192) d_M_seat_192 ?_
                      refine r_imul C (pc := 193) d_M_seat_193 ?_
                      refine r_ild2 C (pc := 194) d_M_seat_194 ?_
                      refine r_iadd C (pc := 195) d_M_seat_195 ?_
                      refine r_ild5 C (pc := 196) d_M_seat_196 ?_
                      refine M_iastN C (pc := 198) hS (2 * b + s) (by omega) rfl (by decide) (by omega) (by decide)  d_M_seat_198 ?_
                      refine r_ild9 C (pc := 199) d_M_seat_199 ?_
                      exact r_iret C (pc := 201) hQ (⟨by unfold fSeat; (try simp only [Int.toNat_natCast]); first | (exfalso; omega) | (rw [if_neg (by omega), if_neg (by omega), if_neg (by omega), if_neg (by omega), if_neg (by omega)]), by unfold gSeat aSeat; (try simp only [Int.toNat_natCast]); first | (exfalso; omega) | (rw [if_pos (by omega)]; exact RM_seat hR hO hb (by omega))⟩) d_M_seat_201
                    · refine r_ldc C (pc := 149) (z := (-900003)) k_805 rfl d_M_seat_149 ?_
                      exact r_iret C (pc := 151) hQ (⟨by unfold fSeat; (try simp only [Int.toNat_natCast]); first | (exfalso; omega) | (rw [if_neg (by omega), if_neg (by omega), if_pos (by omega)]) | (rw [if_neg (by omega), if_neg (by omega), if_neg (by omega), if_neg (by omega), if_pos (by omega)]), by unfold gSeat; (try simp only [Int.toNat_natCast]); first | (exfalso; omega) | (rw [if_neg (by omega)]; exact hR)⟩) d_M_seat_151
                · refine r_ild6 C (pc := 121) d_M_seat_121 ?_
                  refine r_ifeqB C (pc := 123) (tgt := 149) d_M_seat_123 (by decide) (fun c123 => ?_) (fun c123 => ?_)
                  · refine r_ldc C (pc := 149) (z := (-900003)) k_805 rfl d_M_seat_149 ?_
                    exact r_iret C (pc := 151) hQ (⟨by unfold fSeat; (try simp only [Int.toNat_natCast]); first | (exfalso; omega) | (rw [if_neg (by omega), if_neg (by omega), if_pos (by omega)]) | (rw [if_neg (by omega), if_neg (by omega), if_neg (by omega), if_neg (by omega), if_pos (by omega)]), by unfold gSeat; (try simp only [Int.toNat_natCast]); first | (exfalso; omega) | (rw [if_neg (by omega)]; exact hR)⟩) d_M_seat_151
                  · refine r_ild7 C (pc := 126) d_M_seat_126 ?_
                    refine r_ild8 C (pc := 128) d_M_seat_128 ?_
                    refine r_icmp_ge C (pc := 130) (tgt := 149) (by omega) (by omega) d_M_seat_130 (by decide) (fun c130 => ?_) (fun c130 => ?_)
                    · refine r_ldc C (pc := 149) (z := (-900003)) k_805 rfl d_M_seat_149 ?_
                      exact r_iret C (pc := 151) hQ (⟨by unfold fSeat; (try simp only [Int.toNat_natCast]); first | (exfalso; omega) | (rw [if_neg (by omega), if_neg (by omega), if_pos (by omega)]) | (rw [if_neg (by omega), if_neg (by omega), if_neg (by omega), if_neg (by omega), if_pos (by omega)]), by unfold gSeat; (try simp only [Int.toNat_natCast]); first | (exfalso; omega) | (rw [if_neg (by omega)]; exact hR)⟩) d_M_seat_151
                    · refine r_iconst C (pc := 133) d_M_seat_133 ?_
                      refine r_ild8 C (pc := 134) d_M_seat_134 ?_
                      refine r_ild7 C (pc := 136) d_M_seat_136 ?_
                      refine r_isub C (pc := 138) d_M_seat_138 ?_
                      refine r_imul C (pc := 139) d_M_seat_139 ?_
                      refine r_ald0 C (pc := 140) d_M_seat_140 ?_
                      refine gM_M_length C (pc := 141) hS k_640 d_M_seat_141 ?_
                      refine r_ild1 C (pc := 144) d_M_seat_144 ?_
                      refine M_ialdN C (pc := 145) hS (b) (by omega) rfl (by decide) (by omega) (by decide) d_M_seat_145 ?_
                      rw [e1]
                      refine r_icmp_ge C (pc := 146) (tgt := 152) (by omega) (by omega) d_M_seat_146 (by decide) (fun c146 => ?_) (fun c146 => ?_)
                      · refine r_ald0 C (pc := 152) d_M_seat_152 ?_
                        refine gM_M_seatAt C (pc := 153) hS k_645 d_M_seat_153 ?_
                        refine r_iconst C (pc := 156) d_M_seat_156 ?_
                        refine r_ild1 C (pc := 157) d_M_seat_157 ?_
                        refine r_imul C (pc := 158) d_M_seat_158 ?_
                        refine r_ild2 C (pc := 159) d_M_seat_159 ?_
                        refine r_iadd C (pc := 160) d_M_seat_160 ?_
                        refine M_ialdN C (pc := 161) hS (2 * b + s) (by omega) rfl (by decide) (by omega) (by decide) d_M_seat_161 ?_
                        rw [(hrs s (by omega)).1]
                        refine r_ist9 C (pc := 162) rfl d_M_seat_162 ?_
                        refine r_ald0 C (pc := 164) d_M_seat_164 ?_
                        refine gM_M_seatAt C (pc := 165) hS k_645 d_M_seat_165 ?_
                        refine r_iconst C (pc := 168) d_M_seat_168 ?_
                        refine r_ild1 C (pc := 169) d_M_seat_169 ?_
                        refine r_imul C (pc := 170) d_M_seat_170 ?_
                        refine r_ild2 C (pc := 171) d_M_seat_171 ?_
                        refine r_iadd C (pc := 172) d_M_seat_172 ?_
                        refine r_ild3 C (pc := 173) d_M_seat_173 ?_
                        refine M_iastN C (pc := 174) hS (2 * b + s) (by omega) rfl (by decide) (by omega) (by decide)  d_M_seat_174 ?_
                        refine r_ald0 C (pc := 175) d_M_seat_175 ?_
                        refine gM_M_seatOn C (pc := 176) hS k_646 d_M_seat_176 ?_
                        refine r_iconst C (pc := 179) d_M_seat_179 ?_
                        refine r_ild1 C (pc := 180) d_M_seat_180 ?_
                        refine r_imul C (pc := 181) d_M_seat_181 ?_
                        refine r_ild2 C (pc := 182) d_M_seat_182 ?_
                        refine r_iadd C (pc := 183) d_M_seat_183 ?_
                        refine r_ild4 C (pc := 184) d_M_seat_184 ?_
                        refine M_iastN C (pc := 186) hS (2 * b + s) (by omega) rfl (by decide) (by omega) (by decide)  d_M_seat_186 ?_
                        refine r_ald0 C (pc := 187) d_M_seat_187 ?_
                        refine gM_M_seatWhere C (pc := 188) hS k_647 d_M_seat_188 ?_
                        refine r_iconst C (pc := 191) d_M_seat_191 ?_
                        refine r_ild1 C (pc := 192) d_M_seat_192 ?_
                        refine r_imul C (pc := 193) d_M_seat_193 ?_
                        refine r_ild2 C (pc := 194) d_M_seat_194 ?_
                        refine r_iadd C (pc := 195) d_M_seat_195 ?_
                        refine r_ild5 C (pc := 196) d_M_seat_196 ?_
                        refine M_iastN C (pc := 198) hS (2 * b + s) (by omega) rfl (by decide) (by omega) (by decide)  d_M_seat_198 ?_
                        refine r_ild9 C (pc := 199) d_M_seat_199 ?_
                        exact r_iret C (pc := 201) hQ (⟨by unfold fSeat; (try simp only [Int.toNat_natCast]); first | (exfalso; omega) | (rw [if_neg (by omega), if_neg (by omega), if_neg (by omega), if_neg (by omega), if_neg (by omega)]), by unfold gSeat aSeat; (try simp only [Int.toNat_natCast]); first | (exfalso; omega) | (rw [if_pos (by omega)]; exact RM_seat hR hO hb (by omega))⟩) d_M_seat_201
                      · refine r_ldc C (pc := 149) (z := (-900003)) k_805 rfl d_M_seat_149 ?_
                        exact r_iret C (pc := 151) hQ (⟨by unfold fSeat; (try simp only [Int.toNat_natCast]); first | (exfalso; omega) | (rw [if_neg (by omega), if_neg (by omega), if_pos (by omega)]) | (rw [if_neg (by omega), if_neg (by omega), if_neg (by omega), if_neg (by omega), if_pos (by omega)]), by unfold gSeat; (try simp only [Int.toNat_natCast]); first | (exfalso; omega) | (rw [if_neg (by omega)]; exact hR)⟩) d_M_seat_151
            · have hsa : sAp S (b : Int) (s : Int) p = S.2 3 b 1 - p := by unfold sAp; rw [if_pos c77, if_pos c77]; rfl
              refine r_ild3 C (pc := 80) d_M_seat_80 ?_
              refine r_goto C (pc := 81) (tgt := 92) d_M_seat_81 (by decide) ?_
              refine r_ist7 C (pc := 92) rfl d_M_seat_92 ?_
              refine r_ild2 C (pc := 94) d_M_seat_94 ?_
              refine r_if_ne C (pc := 95) (tgt := 111) (by omega) d_M_seat_95 (by decide) (fun c95 => ?_) (fun c95 => ?_)
              · refine r_ild3 C (pc := 111) d_M_seat_111 ?_
                refine r_ist8 C (pc := 112) rfl d_M_seat_112 ?_
                refine r_ild4 C (pc := 114) d_M_seat_114 ?_
                refine r_ldc C (pc := 116) (z := (-900009)) k_796 rfl d_M_seat_116 ?_
                refine r_icmp_eq C (pc := 118) (tgt := 126) (by omega) (by omega) d_M_seat_118 (by decide) (fun c118 => ?_) (fun c118 => ?_)
                · refine r_ild7 C (pc := 126) d_M_seat_126 ?_
                  refine r_ild8 C (pc := 128) d_M_seat_128 ?_
                  refine r_icmp_ge C (pc := 130) (tgt := 149) (by omega) (by omega) d_M_seat_130 (by decide) (fun c130 => ?_) (fun c130 => ?_)
                  · refine r_ldc C (pc := 149) (z := (-900003)) k_805 rfl d_M_seat_149 ?_
                    exact r_iret C (pc := 151) hQ (⟨by unfold fSeat; (try simp only [Int.toNat_natCast]); first | (exfalso; omega) | (rw [if_neg (by omega), if_neg (by omega), if_pos (by omega)]) | (rw [if_neg (by omega), if_neg (by omega), if_neg (by omega), if_neg (by omega), if_pos (by omega)]), by unfold gSeat; (try simp only [Int.toNat_natCast]); first | (exfalso; omega) | (rw [if_neg (by omega)]; exact hR)⟩) d_M_seat_151
                  · refine r_iconst C (pc := 133) d_M_seat_133 ?_
                    refine r_ild8 C (pc := 134) d_M_seat_134 ?_
                    refine r_ild7 C (pc := 136) d_M_seat_136 ?_
                    refine r_isub C (pc := 138) d_M_seat_138 ?_
                    refine r_imul C (pc := 139) d_M_seat_139 ?_
                    refine r_ald0 C (pc := 140) d_M_seat_140 ?_
                    refine gM_M_length C (pc := 141) hS k_640 d_M_seat_141 ?_
                    refine r_ild1 C (pc := 144) d_M_seat_144 ?_
                    refine M_ialdN C (pc := 145) hS (b) (by omega) rfl (by decide) (by omega) (by decide) d_M_seat_145 ?_
                    rw [e1]
                    refine r_icmp_ge C (pc := 146) (tgt := 152) (by omega) (by omega) d_M_seat_146 (by decide) (fun c146 => ?_) (fun c146 => ?_)
                    · refine r_ald0 C (pc := 152) d_M_seat_152 ?_
                      refine gM_M_seatAt C (pc := 153) hS k_645 d_M_seat_153 ?_
                      refine r_iconst C (pc := 156) d_M_seat_156 ?_
                      refine r_ild1 C (pc := 157) d_M_seat_157 ?_
                      refine r_imul C (pc := 158) d_M_seat_158 ?_
                      refine r_ild2 C (pc := 159) d_M_seat_159 ?_
                      refine r_iadd C (pc := 160) d_M_seat_160 ?_
                      refine M_ialdN C (pc := 161) hS (2 * b + s) (by omega) rfl (by decide) (by omega) (by decide) d_M_seat_161 ?_
                      rw [(hrs s (by omega)).1]
                      refine r_ist9 C (pc := 162) rfl d_M_seat_162 ?_
                      refine r_ald0 C (pc := 164) d_M_seat_164 ?_
                      refine gM_M_seatAt C (pc := 165) hS k_645 d_M_seat_165 ?_
                      refine r_iconst C (pc := 168) d_M_seat_168 ?_
                      refine r_ild1 C (pc := 169) d_M_seat_169 ?_
                      refine r_imul C (pc := 170) d_M_seat_170 ?_
                      refine r_ild2 C (pc := 171) d_M_seat_171 ?_
                      refine r_iadd C (pc := 172) d_M_seat_172 ?_
                      refine r_ild3 C (pc := 173) d_M_seat_173 ?_
                      refine M_iastN C (pc := 174) hS (2 * b + s) (by omega) rfl (by decide) (by omega) (by decide)  d_M_seat_174 ?_
                      refine r_ald0 C (pc := 175) d_M_seat_175 ?_
                      refine gM_M_seatOn C (pc := 176) hS k_646 d_M_seat_176 ?_
                      refine r_iconst C (pc := 179) d_M_seat_179 ?_
                      refine r_ild1 C (pc := 180) d_M_seat_180 ?_
                      refine r_imul C (pc := 181) d_M_seat_181 ?_
                      refine r_ild2 C (pc := 182) d_M_seat_182 ?_
                      refine r_iadd C (pc := 183) d_M_seat_183 ?_
                      refine r_ild4 C (pc := 184) d_M_seat_184 ?_
                      refine M_iastN C (pc := 186) hS (2 * b + s) (by omega) rfl (by decide) (by omega) (by decide)  d_M_seat_186 ?_
                      refine r_ald0 C (pc := 187) d_M_seat_187 ?_
                      refine gM_M_seatWhere C (pc := 188) hS k_647 d_M_seat_188 ?_
                      refine r_iconst C (pc := 191) d_M_seat_191 ?_
                      refine r_ild1 C (pc := 192) d_M_seat_192 ?_
                      refine r_imul C (pc := 193) d_M_seat_193 ?_
                      refine r_ild2 C (pc := 194) d_M_seat_194 ?_
                      refine r_iadd C (pc := 195) d_M_seat_195 ?_
                      refine r_ild5 C (pc := 196) d_M_seat_196 ?_
                      refine M_iastN C (pc := 198) hS (2 * b + s) (by omega) rfl (by decide) (by omega) (by decide)  d_M_seat_198 ?_
                      refine r_ild9 C (pc := 199) d_M_seat_199 ?_
                      exact r_iret C (pc := 201) hQ (⟨by unfold fSeat; (try simp only [Int.toNat_natCast]); first | (exfalso; omega) | (rw [if_neg (by omega), if_neg (by omega), if_neg (by omega), if_neg (by omega), if_neg (by omega)]), by unfold gSeat aSeat; (try simp only [Int.toNat_natCast]); first | (exfalso; omega) | (rw [if_pos (by omega)]; exact RM_seat hR hO hb (by omega))⟩) d_M_seat_201
                    · refine r_ldc C (pc := 149) (z := (-900003)) k_805 rfl d_M_seat_149 ?_
                      exact r_iret C (pc := 151) hQ (⟨by unfold fSeat; (try simp only [Int.toNat_natCast]); first | (exfalso; omega) | (rw [if_neg (by omega), if_neg (by omega), if_pos (by omega)]) | (rw [if_neg (by omega), if_neg (by omega), if_neg (by omega), if_neg (by omega), if_pos (by omega)]), by unfold gSeat; (try simp only [Int.toNat_natCast]); first | (exfalso; omega) | (rw [if_neg (by omega)]; exact hR)⟩) d_M_seat_151
                · refine r_ild6 C (pc := 121) d_M_seat_121 ?_
                  refine r_ifeqB C (pc := 123) (tgt := 149) d_M_seat_123 (by decide) (fun c123 => ?_) (fun c123 => ?_)
                  · refine r_ldc C (pc := 149) (z := (-900003)) k_805 rfl d_M_seat_149 ?_
                    exact r_iret C (pc := 151) hQ (⟨by unfold fSeat; (try simp only [Int.toNat_natCast]); first | (exfalso; omega) | (rw [if_neg (by omega), if_neg (by omega), if_pos (by omega)]) | (rw [if_neg (by omega), if_neg (by omega), if_neg (by omega), if_neg (by omega), if_pos (by omega)]), by unfold gSeat; (try simp only [Int.toNat_natCast]); first | (exfalso; omega) | (rw [if_neg (by omega)]; exact hR)⟩) d_M_seat_151
                  · refine r_ild7 C (pc := 126) d_M_seat_126 ?_
                    refine r_ild8 C (pc := 128) d_M_seat_128 ?_
                    refine r_icmp_ge C (pc := 130) (tgt := 149) (by omega) (by omega) d_M_seat_130 (by decide) (fun c130 => ?_) (fun c130 => ?_)
                    · refine r_ldc C (pc := 149) (z := (-900003)) k_805 rfl d_M_seat_149 ?_
                      exact r_iret C (pc := 151) hQ (⟨by unfold fSeat; (try simp only [Int.toNat_natCast]); first | (exfalso; omega) | (rw [if_neg (by omega), if_neg (by omega), if_pos (by omega)]) | (rw [if_neg (by omega), if_neg (by omega), if_neg (by omega), if_neg (by omega), if_pos (by omega)]), by unfold gSeat; (try simp only [Int.toNat_natCast]); first | (exfalso; omega) | (rw [if_neg (by omega)]; exact hR)⟩) d_M_seat_151
                    · refine r_iconst C (pc := 133) d_M_seat_133 ?_
                      refine r_ild8 C (pc := 134) d_M_seat_134 ?_
                      refine r_ild7 C (pc := 136) d_M_seat_136 ?_
                      refine r_isub C (pc := 138) d_M_seat_138 ?_
                      refine r_imul C (pc := 139) d_M_seat_139 ?_
                      refine r_ald0 C (pc := 140) d_M_seat_140 ?_
                      refine gM_M_length C (pc := 141) hS k_640 d_M_seat_141 ?_
                      refine r_ild1 C (pc := 144) d_M_seat_144 ?_
                      refine M_ialdN C (pc := 145) hS (b) (by omega) rfl (by decide) (by omega) (by decide) d_M_seat_145 ?_
                      rw [e1]
                      refine r_icmp_ge C (pc := 146) (tgt := 152) (by omega) (by omega) d_M_seat_146 (by decide) (fun c146 => ?_) (fun c146 => ?_)
                      · refine r_ald0 C (pc := 152) d_M_seat_152 ?_
                        refine gM_M_seatAt C (pc := 153) hS k_645 d_M_seat_153 ?_
                        refine r_iconst C (pc := 156) d_M_seat_156 ?_
                        refine r_ild1 C (pc := 157) d_M_seat_157 ?_
                        refine r_imul C (pc := 158) d_M_seat_158 ?_
                        refine r_ild2 C (pc := 159) d_M_seat_159 ?_
                        refine r_iadd C (pc := 160) d_M_seat_160 ?_
                        refine M_ialdN C (pc := 161) hS (2 * b + s) (by omega) rfl (by decide) (by omega) (by decide) d_M_seat_161 ?_
                        rw [(hrs s (by omega)).1]
                        refine r_ist9 C (pc := 162) rfl d_M_seat_162 ?_
                        refine r_ald0 C (pc := 164) d_M_seat_164 ?_
                        refine gM_M_seatAt C (pc := 165) hS k_645 d_M_seat_165 ?_
                        refine r_iconst C (pc := 168) d_M_seat_168 ?_
                        refine r_ild1 C (pc := 169) d_M_seat_169 ?_
                        refine r_imul C (pc := 170) d_M_seat_170 ?_
                        refine r_ild2 C (pc := 171) d_M_seat_171 ?_
                        refine r_iadd C (pc := 172) d_M_seat_172 ?_
                        refine r_ild3 C (pc := 173) d_M_seat_173 ?_
                        refine M_iastN C (pc := 174) hS (2 * b + s) (by omega) rfl (by decide) (by omega) (by decide)  d_M_seat_174 ?_
                        refine r_ald0 C (pc := 175) d_M_seat_175 ?_
                        refine gM_M_seatOn C (pc := 176) hS k_646 d_M_seat_176 ?_
                        refine r_iconst C (pc := 179) d_M_seat_179 ?_
                        refine r_ild1 C (pc := 180) d_M_seat_180 ?_
                        refine r_imul C (pc := 181) d_M_seat_181 ?_
                        refine r_ild2 C (pc := 182) d_M_seat_182 ?_
                        refine r_iadd C (pc := 183) d_M_seat_183 ?_
                        refine r_ild4 C (pc := 184) d_M_seat_184 ?_
                        refine M_iastN C (pc := 186) hS (2 * b + s) (by omega) rfl (by decide) (by omega) (by decide)  d_M_seat_186 ?_
                        refine r_ald0 C (pc := 187) d_M_seat_187 ?_
                        refine gM_M_seatWhere C (pc := 188) hS k_647 d_M_seat_188 ?_
                        refine r_iconst C (pc := 191) d_M_seat_191 ?_
                        refine r_ild1 C (pc := 192) d_M_seat_192 ?_
                        refine r_imul C (pc := 193) d_M_seat_193 ?_
                        refine r_ild2 C (pc := 194) d_M_seat_194 ?_
                        refine r_iadd C (pc := 195) d_M_seat_195 ?_
                        refine r_ild5 C (pc := 196) d_M_seat_196 ?_
                        refine M_iastN C (pc := 198) hS (2 * b + s) (by omega) rfl (by decide) (by omega) (by decide)  d_M_seat_198 ?_
                        refine r_ild9 C (pc := 199) d_M_seat_199 ?_
                        exact r_iret C (pc := 201) hQ (⟨by unfold fSeat; (try simp only [Int.toNat_natCast]); first | (exfalso; omega) | (rw [if_neg (by omega), if_neg (by omega), if_neg (by omega), if_neg (by omega), if_neg (by omega)]), by unfold gSeat aSeat; (try simp only [Int.toNat_natCast]); first | (exfalso; omega) | (rw [if_pos (by omega)]; exact RM_seat hR hO hb (by omega))⟩) d_M_seat_201
                      · refine r_ldc C (pc := 149) (z := (-900003)) k_805 rfl d_M_seat_149 ?_
                        exact r_iret C (pc := 151) hQ (⟨by unfold fSeat; (try simp only [Int.toNat_natCast]); first | (exfalso; omega) | (rw [if_neg (by omega), if_neg (by omega), if_pos (by omega)]) | (rw [if_neg (by omega), if_neg (by omega), if_neg (by omega), if_neg (by omega), if_pos (by omega)]), by unfold gSeat; (try simp only [Int.toNat_natCast]); first | (exfalso; omega) | (rw [if_neg (by omega)]; exact hR)⟩) d_M_seat_151
              · refine r_ald0 C (pc := 98) d_M_seat_98 ?_
                refine gM_M_seatAt C (pc := 99) hS k_645 d_M_seat_99 ?_
                refine r_iconst C (pc := 102) d_M_seat_102 ?_
                refine r_ild1 C (pc := 103) d_M_seat_103 ?_
                refine r_imul C (pc := 104) d_M_seat_104 ?_
                refine r_iconst C (pc := 105) d_M_seat_105 ?_
                refine r_iadd C (pc := 106) d_M_seat_106 ?_
                refine M_ialdN C (pc := 107) hS (2 * b + 1) (by omega) rfl (by decide) (by omega) (by decide) d_M_seat_107 ?_
                rw [hq1]
                refine r_goto C (pc := 108) (tgt := 112) d_M_seat_108 (by decide) ?_
                refine r_ist8 C (pc := 112) rfl d_M_seat_112 ?_
                refine r_ild4 C (pc := 114) d_M_seat_114 ?_
                refine r_ldc C (pc := 116) (z := (-900009)) k_796 rfl d_M_seat_116 ?_
                refine r_icmp_eq C (pc := 118) (tgt := 126) (by omega) (by omega) d_M_seat_118 (by decide) (fun c118 => ?_) (fun c118 => ?_)
                · refine r_ild7 C (pc := 126) d_M_seat_126 ?_
                  refine r_ild8 C (pc := 128) d_M_seat_128 ?_
                  refine r_icmp_ge C (pc := 130) (tgt := 149) (by omega) (by omega) d_M_seat_130 (by decide) (fun c130 => ?_) (fun c130 => ?_)
                  · refine r_ldc C (pc := 149) (z := (-900003)) k_805 rfl d_M_seat_149 ?_
                    exact r_iret C (pc := 151) hQ (⟨by unfold fSeat; (try simp only [Int.toNat_natCast]); first | (exfalso; omega) | (rw [if_neg (by omega), if_neg (by omega), if_pos (by omega)]) | (rw [if_neg (by omega), if_neg (by omega), if_neg (by omega), if_neg (by omega), if_pos (by omega)]), by unfold gSeat; (try simp only [Int.toNat_natCast]); first | (exfalso; omega) | (rw [if_neg (by omega)]; exact hR)⟩) d_M_seat_151
                  · refine r_iconst C (pc := 133) d_M_seat_133 ?_
                    refine r_ild8 C (pc := 134) d_M_seat_134 ?_
                    refine r_ild7 C (pc := 136) d_M_seat_136 ?_
                    refine r_isub C (pc := 138) d_M_seat_138 ?_
                    refine r_imul C (pc := 139) d_M_seat_139 ?_
                    refine r_ald0 C (pc := 140) d_M_seat_140 ?_
                    refine gM_M_length C (pc := 141) hS k_640 d_M_seat_141 ?_
                    refine r_ild1 C (pc := 144) d_M_seat_144 ?_
                    refine M_ialdN C (pc := 145) hS (b) (by omega) rfl (by decide) (by omega) (by decide) d_M_seat_145 ?_
                    rw [e1]
                    refine r_icmp_ge C (pc := 146) (tgt := 152) (by omega) (by omega) d_M_seat_146 (by decide) (fun c146 => ?_) (fun c146 => ?_)
                    · refine r_ald0 C (pc := 152) d_M_seat_152 ?_
                      refine gM_M_seatAt C (pc := 153) hS k_645 d_M_seat_153 ?_
                      refine r_iconst C (pc := 156) d_M_seat_156 ?_
                      refine r_ild1 C (pc := 157) d_M_seat_157 ?_
                      refine r_imul C (pc := 158) d_M_seat_158 ?_
                      refine r_ild2 C (pc := 159) d_M_seat_159 ?_
                      refine r_iadd C (pc := 160) d_M_seat_160 ?_
                      refine M_ialdN C (pc := 161) hS (2 * b + s) (by omega) rfl (by decide) (by omega) (by decide) d_M_seat_161 ?_
                      rw [(hrs s (by omega)).1]
                      refine r_ist9 C (pc := 162) rfl d_M_seat_162 ?_
                      refine r_ald0 C (pc := 164) d_M_seat_164 ?_
                      refine gM_M_seatAt C (pc := 165) hS k_645 d_M_seat_165 ?_
                      refine r_iconst C (pc := 168) d_M_seat_168 ?_
                      refine r_ild1 C (pc := 169) d_M_seat_169 ?_
                      refine r_imul C (pc := 170) d_M_seat_170 ?_
                      refine r_ild2 C (pc := 171) d_M_seat_171 ?_
                      refine r_iadd C (pc := 172) d_M_seat_172 ?_
                      refine r_ild3 C (pc := 173) d_M_seat_173 ?_
                      refine M_iastN C (pc := 174) hS (2 * b + s) (by omega) rfl (by decide) (by omega) (by decide)  d_M_seat_174 ?_
                      refine r_ald0 C (pc := 175) d_M_seat_175 ?_
                      refine gM_M_seatOn C (pc := 176) hS k_646 d_M_seat_176 ?_
                      refine r_iconst C (pc := 179) d_M_seat_179 ?_
                      refine r_ild1 C (pc := 180) d_M_seat_180 ?_
                      refine r_imul C (pc := 181) d_M_seat_181 ?_
                      refine r_ild2 C (pc := 182) d_M_seat_182 ?_
                      refine r_iadd C (pc := 183) d_M_seat_183 ?_
                      refine r_ild4 C (pc := 184) d_M_seat_184 ?_
                      refine M_iastN C (pc := 186) hS (2 * b + s) (by omega) rfl (by decide) (by omega) (by decide)  d_M_seat_186 ?_
                      refine r_ald0 C (pc := 187) d_M_seat_187 ?_
                      refine gM_M_seatWhere C (pc := 188) hS k_647 d_M_seat_188 ?_
                      refine r_iconst C (pc := 191) d_M_seat_191 ?_
                      refine r_ild1 C (pc := 192) d_M_seat_192 ?_
                      refine r_imul C (pc := 193) d_M_seat_193 ?_
                      refine r_ild2 C (pc := 194) d_M_seat_194 ?_
                      refine r_iadd C (pc := 195) d_M_seat_195 ?_
                      refine r_ild5 C (pc := 196) d_M_seat_196 ?_
                      refine M_iastN C (pc := 198) hS (2 * b + s) (by omega) rfl (by decide) (by omega) (by decide)  d_M_seat_198 ?_
                      refine r_ild9 C (pc := 199) d_M_seat_199 ?_
                      exact r_iret C (pc := 201) hQ (⟨by unfold fSeat; (try simp only [Int.toNat_natCast]); first | (exfalso; omega) | (rw [if_neg (by omega), if_neg (by omega), if_neg (by omega), if_neg (by omega), if_neg (by omega)]), by unfold gSeat aSeat; (try simp only [Int.toNat_natCast]); first | (exfalso; omega) | (rw [if_pos (by omega)]; exact RM_seat hR hO hb (by omega))⟩) d_M_seat_201
                    · refine r_ldc C (pc := 149) (z := (-900003)) k_805 rfl d_M_seat_149 ?_
                      exact r_iret C (pc := 151) hQ (⟨by unfold fSeat; (try simp only [Int.toNat_natCast]); first | (exfalso; omega) | (rw [if_neg (by omega), if_neg (by omega), if_pos (by omega)]) | (rw [if_neg (by omega), if_neg (by omega), if_neg (by omega), if_neg (by omega), if_pos (by omega)]), by unfold gSeat; (try simp only [Int.toNat_natCast]); first | (exfalso; omega) | (rw [if_neg (by omega)]; exact hR)⟩) d_M_seat_151
                · refine r_ild6 C (pc := 121) d_M_seat_121 ?_
                  refine r_ifeqB C (pc := 123) (tgt := 149) d_M_seat_123 (by decide) (fun c123 => ?_) (fun c123 => ?_)
                  · refine r_ldc C (pc := 149) (z := (-900003)) k_805 rfl d_M_seat_149 ?_
                    exact r_iret C (pc := 151) hQ (⟨by unfold fSeat; (try simp only [Int.toNat_natCast]); first | (exfalso; omega) | (rw [if_neg (by omega), if_neg (by omega), if_pos (by omega)]) | (rw [if_neg (by omega), if_neg (by omega), if_neg (by omega), if_neg (by omega), if_pos (by omega)]), by unfold gSeat; (try simp only [Int.toNat_natCast]); first | (exfalso; omega) | (rw [if_neg (by omega)]; exact hR)⟩) d_M_seat_151
                  · refine r_ild7 C (pc := 126) d_M_seat_126 ?_
                    refine r_ild8 C (pc := 128) d_M_seat_128 ?_
                    refine r_icmp_ge C (pc := 130) (tgt := 149) (by omega) (by omega) d_M_seat_130 (by decide) (fun c130 => ?_) (fun c130 => ?_)
                    · refine r_ldc C (pc := 149) (z := (-900003)) k_805 rfl d_M_seat_149 ?_
                      exact r_iret C (pc := 151) hQ (⟨by unfold fSeat; (try simp only [Int.toNat_natCast]); first | (exfalso; omega) | (rw [if_neg (by omega), if_neg (by omega), if_pos (by omega)]) | (rw [if_neg (by omega), if_neg (by omega), if_neg (by omega), if_neg (by omega), if_pos (by omega)]), by unfold gSeat; (try simp only [Int.toNat_natCast]); first | (exfalso; omega) | (rw [if_neg (by omega)]; exact hR)⟩) d_M_seat_151
                    · refine r_iconst C (pc := 133) d_M_seat_133 ?_
                      refine r_ild8 C (pc := 134) d_M_seat_134 ?_
                      refine r_ild7 C (pc := 136) d_M_seat_136 ?_
                      refine r_isub C (pc := 138) d_M_seat_138 ?_
                      refine r_imul C (pc := 139) d_M_seat_139 ?_
                      refine r_ald0 C (pc := 140) d_M_seat_140 ?_
                      refine gM_M_length C (pc := 141) hS k_640 d_M_seat_141 ?_
                      refine r_ild1 C (pc := 144) d_M_seat_144 ?_
                      refine M_ialdN C (pc := 145) hS (b) (by omega) rfl (by decide) (by omega) (by decide) d_M_seat_145 ?_
                      rw [e1]
                      refine r_icmp_ge C (pc := 146) (tgt := 152) (by omega) (by omega) d_M_seat_146 (by decide) (fun c146 => ?_) (fun c146 => ?_)
                      · refine r_ald0 C (pc := 152) d_M_seat_152 ?_
                        refine gM_M_seatAt C (pc := 153) hS k_645 d_M_seat_153 ?_
                        refine r_iconst C (pc := 156) d_M_seat_156 ?_
                        refine r_ild1 C (pc := 157) d_M_seat_157 ?_
                        refine r_imul C (pc := 158) d_M_seat_158 ?_
                        refine r_ild2 C (pc := 159) d_M_seat_159 ?_
                        refine r_iadd C (pc := 160) d_M_seat_160 ?_
                        refine M_ialdN C (pc := 161) hS (2 * b + s) (by omega) rfl (by decide) (by omega) (by decide) d_M_seat_161 ?_
                        rw [(hrs s (by omega)).1]
                        refine r_ist9 C (pc := 162) rfl d_M_seat_162 ?_
                        refine r_ald0 C (pc := 164) d_M_seat_164 ?_
                        refine gM_M_seatAt C (pc := 165) hS k_645 d_M_seat_165 ?_
                        refine r_iconst C (pc := 168) d_M_seat_168 ?_
                        refine r_ild1 C (pc := 169) d_M_seat_169 ?_
                        refine r_imul C (pc := 170) d_M_seat_170 ?_
                        refine r_ild2 C (pc := 171) d_M_seat_171 ?_
                        refine r_iadd C (pc := 172) d_M_seat_172 ?_
                        refine r_ild3 C (pc := 173) d_M_seat_173 ?_
                        refine M_iastN C (pc := 174) hS (2 * b + s) (by omega) rfl (by decide) (by omega) (by decide)  d_M_seat_174 ?_
                        refine r_ald0 C (pc := 175) d_M_seat_175 ?_
                        refine gM_M_seatOn C (pc := 176) hS k_646 d_M_seat_176 ?_
                        refine r_iconst C (pc := 179) d_M_seat_179 ?_
                        refine r_ild1 C (pc := 180) d_M_seat_180 ?_
                        refine r_imul C (pc := 181) d_M_seat_181 ?_
                        refine r_ild2 C (pc := 182) d_M_seat_182 ?_
                        refine r_iadd C (pc := 183) d_M_seat_183 ?_
                        refine r_ild4 C (pc := 184) d_M_seat_184 ?_
                        refine M_iastN C (pc := 186) hS (2 * b + s) (by omega) rfl (by decide) (by omega) (by decide)  d_M_seat_186 ?_
                        refine r_ald0 C (pc := 187) d_M_seat_187 ?_
                        refine gM_M_seatWhere C (pc := 188) hS k_647 d_M_seat_188 ?_
                        refine r_iconst C (pc := 191) d_M_seat_191 ?_
                        refine r_ild1 C (pc := 192) d_M_seat_192 ?_
                        refine r_imul C (pc := 193) d_M_seat_193 ?_
                        refine r_ild2 C (pc := 194) d_M_seat_194 ?_
                        refine r_iadd C (pc := 195) d_M_seat_195 ?_
                        refine r_ild5 C (pc := 196) d_M_seat_196 ?_
                        refine M_iastN C (pc := 198) hS (2 * b + s) (by omega) rfl (by decide) (by omega) (by decide)  d_M_seat_198 ?_
                        refine r_ild9 C (pc := 199) d_M_seat_199 ?_
                        exact r_iret C (pc := 201) hQ (⟨by unfold fSeat; (try simp only [Int.toNat_natCast]); first | (exfalso; omega) | (rw [if_neg (by omega), if_neg (by omega), if_neg (by omega), if_neg (by omega), if_neg (by omega)]), by unfold gSeat aSeat; (try simp only [Int.toNat_natCast]); first | (exfalso; omega) | (rw [if_pos (by omega)]; exact RM_seat hR hO hb (by omega))⟩) d_M_seat_201
                      · refine r_ldc C (pc := 149) (z := (-900003)) k_805 rfl d_M_seat_149 ?_
                        exact r_iret C (pc := 151) hQ (⟨by unfold fSeat; (try simp only [Int.toNat_natCast]); first | (exfalso; omega) | (rw [if_neg (by omega), if_neg (by omega), if_pos (by omega)]) | (rw [if_neg (by omega), if_neg (by omega), if_neg (by omega), if_neg (by omega), if_pos (by omega)]), by unfold gSeat; (try simp only [Int.toNat_natCast]); first | (exfalso; omega) | (rw [if_neg (by omega)]; exact hR)⟩) d_M_seat_151
          · refine r_ldc C (pc := 73) (z := (-900002)) k_784 rfl d_M_seat_73 ?_
            exact r_iret C (pc := 75) hQ (⟨by unfold fSeat; (try simp only [Int.toNat_natCast]); first | (exfalso; omega) | (rw [if_neg (by omega), if_pos (by omega)]) | (rw [if_neg (by omega), if_neg (by omega), if_neg (by omega), if_pos (by omega)]), by unfold gSeat; (try simp only [Int.toNat_natCast]); first | (exfalso; omega) | (rw [if_neg (by omega)]; exact hR)⟩) d_M_seat_75
  · refine r_ldc C (pc := 8) (z := (-900001)) k_780 rfl d_M_seat_8 ?_
    exact r_iret C (pc := 10) hQ (⟨by unfold fSeat; (try simp only [Int.toNat_natCast]); rw [if_pos (by omega)], by unfold gSeat; (try simp only [Int.toNat_natCast]); rw [if_neg (by omega)]; exact hR⟩) d_M_seat_10
/-- the weights of a beam but for one -/
def wsN (S : zS) (b : Nat) (t : Int) : Nat → Int
  | 0 => 0
  | n + 1 => wsN S b t n + (if (n : Int) = t then 0 else S.2 8 b n)
theorem wsN_succ (S : zS) (b : Nat) (t : Int) (n : Nat) : wsN S b t (n + 1) = wsN S b t n + (if (n : Int) = t then 0 else S.2 8 b n) := rfl
theorem wsN_ok {S : zS} (hO : ok S) {b : Nat} (hb : b < 12) (t : Int) (ht : 0 ≤ t) (v : Int) (hv : 0 ≤ v) : ∀ n : Nat, n ≤ 11 → (0 ≤ wsN S b t n ∧ wsN S b t n ≤ 99 * (n : Int)) ∧ (anN (fun x => decide (0 < (if (x : Int) = t then v else S.2 8 b x))) n = true ↔ 0 < wsN S b t n + (if t < (n : Int) then v else 0))
  | 0, _ => by
    rw [if_neg (by omega)]
    exact ⟨show (0 : Int) ≤ 0 ∧ (0 : Int) ≤ 99 * ((0 : Nat) : Int) by decide, show (false = true ↔ (0 : Int) < 0 + 0) by decide⟩
  | n + 1, h => by
    obtain ⟨⟨i1, i2⟩, ih⟩ := wsN_ok hO hb t ht v hv n (by omega)
    have hw := (hO.2.2.2.2.2.2.2.2.1 b hb).1 n (by omega)
    rw [anN_succ, wsN_succ, Bool.or_eq_true, ih, decide_eq_true_eq]
    by_cases e : (n : Int) = t
    · rw [if_pos e, if_pos e, if_neg (by omega), if_pos (by omega)]
      omega
    · rw [if_neg e, if_neg e]
      by_cases z : t < (n : Int)
      · rw [if_pos z, if_pos (by omega)]; omega
      · rw [if_neg z, if_neg (by omega)]; omega
theorem anN_none {p : Nat → Bool} : ∀ n : Nat, (∀ k, k < n → p k = false) → anN p n = false
  | 0, _ => rfl
  | n + 1, h => by rw [anN_succ, anN_none n (fun k hk => h k (by omega)), h n (by omega)]; rfl
set_option maxRecDepth 20000 in
theorem l_M_weight_44 {G : zG} (C : zC G b_M_weight "OldBeamsModel" (some .int) 6 2 46) (hS : G.1 = sM) (M : zM) (S : zS) (hR : RM S M) (hO : ok S) (b : Nat) (hb : b < S.1 0) (t v : Int) (ht : 0 ≤ t ∧ t ≤ 10) (hv : 0 ≤ v ∧ v ≤ 99) (hQ : G.2.2.1 = zPi (fun r M2 => r = fWeight S (b : Int) t v ∧ RM (gWeight S (b : Int) t v) M2)) : ∀ (n : Nat) (j : Nat), (j ≤ 11) → (11 - j < n) → VJ G M 44 [some (.ref (zad G 0)), some (.int (iI (b : Int))), some (.int (iI t)), some (.int (iI v)), some (.int (iI (wsN S b t j))), some (.int (iI (j : Int)))] [] := by
  intro n
  induction n with
  | zero =>
    intro j hj hn
    exact absurd hn (by omega)
  | succ n ih =>
    intro j hj hn
    have h12 := hO.n
    obtain ⟨hw1, hw2⟩ := wsN_ok hO (b := b) (by omega) t ht.1 v hv.1 j hj
    have es := wsN_succ S b t j
    refine r_ild5 C (pc := 44) d_M_weight_44 ?_
    refine r_bipush C (pc := 46) (n := 11) rfl d_M_weight_46 ?_
    refine r_icmp_ge C (pc := 48) (tgt := 84) (by omega) (by omega) d_M_weight_48 (by decide) (fun c48 => ?_) (fun c48 => ?_)
    · refine r_ald0 C (pc := 84) d_M_weight_84 ?_
      refine r_ild1 C (pc := 85) d_M_weight_85 ?_
      refine call_M_looksAt C (pc := 86) hS (c_M_looksAt _ _ M S hR hO b (by omega)) k_915 (by decide) (Nat.le_of_ble_eq_true rfl) rfl d_M_weight_86 (kkI (fun r86 N86 h86 => ?_))
      obtain ⟨rfl, rfl⟩ := h86
      have hl8 := hO.2.2.2.2.2.2.2.2.2.2.2.1 b (by omega)
      rw [show j = 11 by omega, if_pos (by omega)] at hw2
      rw [show j = 11 by omega] at hw1 ⊢
      refine r_if_gt C (pc := 89) (tgt := 99) (by omega) d_M_weight_89 (by decide) (fun c89 => ?_) (fun c89 => ?_)
      · refine r_ldc C (pc := 99) (z := (-900003)) k_805 rfl d_M_weight_99 ?_
        exact r_iret C (pc := 101) hQ (⟨by unfold fWeight; rw [if_neg (by omega), if_neg (by omega), Int.toNat_natCast, if_pos (by first | exact Or.inl (by omega) | exact Or.inr (Bool.eq_false_iff.mpr (fun z => absurd (hw2.mp z) (by omega))))], by unfold gWeight; rw [Int.toNat_natCast, if_neg (fun z => z.2.2 (by first | exact Or.inl (by omega) | exact Or.inr (Bool.eq_false_iff.mpr (fun z => absurd (hw2.mp z) (by omega)))))]; exact hR⟩) d_M_weight_101
      · refine r_ild4 C (pc := 92) d_M_weight_92 ?_
        refine r_ild3 C (pc := 94) d_M_weight_94 ?_
        refine r_iadd C (pc := 95) d_M_weight_95 ?_
        refine r_if_ne C (pc := 96) (tgt := 102) (by omega) d_M_weight_96 (by decide) (fun c96 => ?_) (fun c96 => ?_)
        · refine r_ald0 C (pc := 102) d_M_weight_102 ?_
          refine gM_M_weight C (pc := 103) hS k_665 d_M_weight_103 ?_
          refine r_bipush C (pc := 106) (n := 11) rfl d_M_weight_106 ?_
          refine r_ild1 C (pc := 108) d_M_weight_108 ?_
          refine r_imul C (pc := 109) d_M_weight_109 ?_
          refine r_ild2 C (pc := 110) d_M_weight_110 ?_
          refine r_iadd C (pc := 111) d_M_weight_111 ?_
          refine M_ialdN C (pc := 112) hS (11 * b + t.toNat) (by omega) rfl (by decide) (by omega) (by decide) d_M_weight_112 ?_
          rw [hR.2.2.2.2.2.2.2.2.1 b hb t.toNat (by omega)]
          refine r_ist5 C (pc := 113) rfl d_M_weight_113 ?_
          refine r_ald0 C (pc := 115) d_M_weight_115 ?_
          refine gM_M_weight C (pc := 116) hS k_665 d_M_weight_116 ?_
          refine r_bipush C (pc := 119) (n := 11) rfl d_M_weight_119 ?_
          refine r_ild1 C (pc := 121) d_M_weight_121 ?_
          refine r_imul C (pc := 122) d_M_weight_122 ?_
          refine r_ild2 C (pc := 123) d_M_weight_123 ?_
          refine r_iadd C (pc := 124) d_M_weight_124 ?_
          refine r_ild3 C (pc := 125) d_M_weight_125 ?_
          refine M_iastN C (pc := 126) hS (11 * b + t.toNat) (by omega) rfl (by decide) (by omega) (by decide)  d_M_weight_126 ?_
          refine r_ild5 C (pc := 127) d_M_weight_127 ?_
          exact r_iret C (pc := 129) hQ (⟨by unfold fWeight; rw [if_neg (by omega), if_neg (by omega), Int.toNat_natCast, if_neg (fun z => z.elim (by omega) (fun z2 => Bool.eq_false_iff.mp z2 (hw2.mpr (by omega))))], by unfold gWeight; rw [Int.toNat_natCast, if_pos ⟨by omega, by omega, fun z => z.elim (by omega) (fun z2 => Bool.eq_false_iff.mp z2 (hw2.mpr (by omega)))⟩]; exact RM_weight hR hO (by omega) (by omega)⟩) d_M_weight_129
        · refine r_ldc C (pc := 99) (z := (-900003)) k_805 rfl d_M_weight_99 ?_
          exact r_iret C (pc := 101) hQ (⟨by unfold fWeight; rw [if_neg (by omega), if_neg (by omega), Int.toNat_natCast, if_pos (by first | exact Or.inl (by omega) | exact Or.inr (Bool.eq_false_iff.mpr (fun z => absurd (hw2.mp z) (by omega))))], by unfold gWeight; rw [Int.toNat_natCast, if_neg (fun z => z.2.2 (by first | exact Or.inl (by omega) | exact Or.inr (Bool.eq_false_iff.mpr (fun z => absurd (hw2.mp z) (by omega)))))]; exact hR⟩) d_M_weight_101
    · refine r_ild4 C (pc := 51) d_M_weight_51 ?_
      refine r_ild5 C (pc := 53) d_M_weight_53 ?_
      refine r_ild2 C (pc := 55) d_M_weight_55 ?_
      refine r_icmp_ne C (pc := 56) (tgt := 63) (by omega) (by omega) d_M_weight_56 (by decide) (fun c56 => ?_) (fun c56 => ?_)
      · refine r_ald0 C (pc := 63) d_M_weight_63 ?_
        refine gM_M_weight C (pc := 64) hS k_665 d_M_weight_64 ?_
        refine r_bipush C (pc := 67) (n := 11) rfl d_M_weight_67 ?_
        refine r_ild1 C (pc := 69) d_M_weight_69 ?_
        refine r_imul C (pc := 70) d_M_weight_70 ?_
        refine r_ild5 C (pc := 71) d_M_weight_71 ?_
        refine r_iadd C (pc := 73) d_M_weight_73 ?_
        refine M_ialdN C (pc := 74) hS (11 * b + j) (by omega) rfl (by decide) (by omega) (by decide) d_M_weight_74 ?_
        rw [hR.2.2.2.2.2.2.2.2.1 b hb j (by omega)]
        have hwj := (hO.2.2.2.2.2.2.2.2.1 b (by omega)).1 j (by omega)
        refine r_iadd C (pc := 75) d_M_weight_75 ?_
        refine r_ist4 C (pc := 76) rfl d_M_weight_76 ?_
        refine r_iinc5 C (pc := 78) rfl d_M_weight_78 ?_
        refine r_goto C (pc := 81) (tgt := 44) d_M_weight_81 (by decide) ?_
        refine r_weak ?_ (ih (j + 1) (by omega) (by omega))
        exact ⟨Or.inr rfl, Or.inr rfl, Or.inr rfl, Or.inr rfl, Or.inr (by rw [es]; first | rw [if_pos c56] | rw [if_neg c56]), Or.inr rfl, trivial⟩
      · refine r_iconst C (pc := 59) d_M_weight_59 ?_
        refine r_goto C (pc := 60) (tgt := 75) d_M_weight_60 (by decide) ?_
        refine r_iadd C (pc := 75) d_M_weight_75 ?_
        refine r_ist4 C (pc := 76) rfl d_M_weight_76 ?_
        refine r_iinc5 C (pc := 78) rfl d_M_weight_78 ?_
        refine r_goto C (pc := 81) (tgt := 44) d_M_weight_81 (by decide) ?_
        refine r_weak ?_ (ih (j + 1) (by omega) (by omega))
        exact ⟨Or.inr rfl, Or.inr rfl, Or.inr rfl, Or.inr rfl, Or.inr (by rw [es]; first | rw [if_pos c56] | rw [if_neg c56]), Or.inr rfl, trivial⟩
set_option maxRecDepth 20000 in
theorem c_M_weight (l : Launch) (E : zE) (M : zM) (S : zS) (hR : RM S M) (hO : ok S) (b t v : Int) (hb : -2147483648 ≤ b ∧ b < 2147483648) (ht : -2147483648 ≤ t ∧ t < 2147483648) (hv : -2147483648 ≤ v ∧ v < 2147483648) : zK l sM E y_M_weight b_M_weight 6 (some .int) 2 46 [.ref (E.2.2 0), .int (iI b), .int (iI t), .int (iI v)] M (zPi (fun r M2 => r = fWeight S b t v ∧ RM (gWeight S b t v) M2)) := by
  refine zK.of "OldBeamsModel" rfl (by decide) (Nat.le_of_ble_eq_true rfl) ?_
  intro G hS hE hQ hL C
  subst hE
  subst hL
  show VJ G M 0 [some (.ref (G.2.1.2.2 0)), some (.int (iI b)), some (.int (iI t)), some (.int (iI v)), none, none] []
  have h12 := hO.n
  have hbn : M.1 0 2 = (S.1 0 : Int) := hR.1.1
  refine r_ald0 C (pc := 0) d_M_weight_0 ?_
  refine r_ild1 C (pc := 1) d_M_weight_1 ?_
  refine call_M_isBeam C (pc := 2) hS (c_M_isBeam _ _ M S hR hO _ (by omega)) k_801 (by decide) (Nat.le_of_ble_eq_true rfl) rfl d_M_weight_2 (kkI (fun r2 N2 h2 => ?_))
  obtain ⟨rfl, rfl⟩ := h2
  refine r_ifneB C (pc := 5) (tgt := 11) d_M_weight_5 (by decide) (fun c5 => ?_) (fun c5 => ?_)
  · obtain ⟨b, rfl⟩ := Int.eq_ofNat_of_zero_le c5.1
    have hb : b < S.1 0 := by omega
    refine r_ild2 C (pc := 11) d_M_weight_11 ?_
    refine r_i2l C (pc := 12) (by omega) d_M_weight_12 ?_
    refine r_lconst C (pc := 13) (v := 0) rfl d_M_weight_13 ?_
    refine r_ldc2 C (pc := 14) k_783 d_M_weight_14 ?_
    refine call_M_in C (pc := 17) hS (c_M_in _ _ _ _ (0) (10) (by omega) (by omega) (by omega)) k_777 (by decide) (Nat.le_of_ble_eq_true rfl) rfl d_M_weight_17 (kkI (fun r17 N17 h17 => ?_))
    obtain ⟨rfl, rfl⟩ := h17
    refine r_ifeqB C (pc := 20) (tgt := 35) d_M_weight_20 (by decide) (fun c20 => ?_) (fun c20 => ?_)
    · refine r_ldc C (pc := 35) (z := (-900002)) k_784 rfl d_M_weight_35 ?_
      exact r_iret C (pc := 37) hQ (⟨by unfold fWeight; rw [if_neg (by omega), if_pos (by omega)], by unfold gWeight; rw [if_neg (fun z => absurd z.2.1 (by omega))]; exact hR⟩) d_M_weight_37
    · refine r_ild3 C (pc := 23) d_M_weight_23 ?_
      refine r_i2l C (pc := 24) (by omega) d_M_weight_24 ?_
      refine r_lconst C (pc := 25) (v := 0) rfl d_M_weight_25 ?_
      refine r_ldc2 C (pc := 26) k_914 d_M_weight_26 ?_
      refine call_M_in C (pc := 29) hS (c_M_in _ _ _ _ (0) (99) (by omega) (by omega) (by omega)) k_777 (by decide) (Nat.le_of_ble_eq_true rfl) rfl d_M_weight_29 (kkI (fun r29 N29 h29 => ?_))
      obtain ⟨rfl, rfl⟩ := h29
      refine r_ifneB C (pc := 32) (tgt := 38) d_M_weight_32 (by decide) (fun c32 => ?_) (fun c32 => ?_)
      · refine r_iconst C (pc := 38) d_M_weight_38 ?_
        refine r_ist4 C (pc := 39) rfl d_M_weight_39 ?_
        refine r_iconst C (pc := 41) d_M_weight_41 ?_
        refine r_ist5 C (pc := 42) rfl d_M_weight_42 ?_
        exact l_M_weight_44 C hS M S hR hO b hb t v (by omega) (by omega) hQ 12 0 (by omega) (by omega)
      · refine r_ldc C (pc := 35) (z := (-900002)) k_784 rfl d_M_weight_35 ?_
        exact r_iret C (pc := 37) hQ (⟨by unfold fWeight; rw [if_neg (by omega), if_pos (by omega)], by unfold gWeight; rw [if_neg (fun z => absurd z.2.1 (by omega))]; exact hR⟩) d_M_weight_37
  · refine r_ldc C (pc := 8) (z := (-900001)) k_780 rfl d_M_weight_8 ?_
    exact r_iret C (pc := 10) hQ (⟨by unfold fWeight; (try simp only [Int.toNat_natCast]); rw [if_pos (by omega)], by unfold gWeight; (try simp only [Int.toNat_natCast]); rw [if_neg (by omega)]; exact hR⟩) d_M_weight_10
set_option maxRecDepth 20000 in
theorem l_M_tool_45 {G : zG} (C : zC G b_M_tool "OldBeamsModel" (some .int) 5 1 25) (hS : G.1 = sM) (M : zM) (S : zS) (hR : RM S M) (hO : ok S) (k : Nat) (hk : k < 4) (t v : Int) (ht : 0 ≤ t ∧ t ≤ 10) (hv : 0 ≤ v ∧ v ≤ 9) (hQ : G.2.2.1 = zPi (fun r M2 => r = fTool S (k : Int) t v ∧ RM (gTool S (k : Int) t v) M2)) : ∀ (n : Nat) (j : Nat), (j ≤ S.1 2) → (∀ i, i < j → (fun l => decide (S.2 10 l 1 = (k : Int))) i = false) → (S.1 2 - j < n) → VJ G M 45 [some (.ref (zad G 0)), some (.int (iI (k : Int))), some (.int (iI t)), some (.int (iI v)), some (.int (iI (j : Int)))] [] := by
  intro n
  induction n with
  | zero =>
    intro j hj hno hn
    exact absurd hn (by omega)
  | succ n ih =>
    intro j hj hno hn
    have h12 := hO.n
    have hcap := hO.1
    refine r_ild4 C (pc := 45) d_M_tool_45 ?_
    refine r_ald0 C (pc := 47) d_M_tool_47 ?_
    refine gM_M_looks C (pc := 48) hS k_667 d_M_tool_48 ?_
    rw [hR.1.2.2.1]
    refine r_icmp_ge C (pc := 51) (tgt := 74) (by omega) (by omega) d_M_tool_51 (by decide) (fun c51 => ?_) (fun c51 => ?_)
    · refine r_ald0 C (pc := 74) d_M_tool_74 ?_
      refine gM_M_often C (pc := 75) hS k_666 d_M_tool_75 ?_
      refine r_bipush C (pc := 78) (n := 11) rfl d_M_tool_78 ?_
      refine r_ild1 C (pc := 80) d_M_tool_80 ?_
      refine r_imul C (pc := 81) d_M_tool_81 ?_
      refine r_ild2 C (pc := 82) d_M_tool_82 ?_
      refine r_iadd C (pc := 83) d_M_tool_83 ?_
      refine M_ialdN C (pc := 84) hS (11 * k + t.toNat) (by omega) rfl (by decide) (by omega) (by decide) d_M_tool_84 ?_
      rw [hR.2.2.2.2.2.2.2.2.2.1 k (by omega) t.toNat (by omega)]
      refine r_ist4 C (pc := 85) rfl d_M_tool_85 ?_
      refine r_ald0 C (pc := 87) d_M_tool_87 ?_
      refine gM_M_often C (pc := 88) hS k_666 d_M_tool_88 ?_
      refine r_bipush C (pc := 91) (n := 11) rfl d_M_tool_91 ?_
      refine r_ild1 C (pc := 93) d_M_tool_93 ?_
      refine r_imul C (pc := 94) d_M_tool_94 ?_
      refine r_ild2 C (pc := 95) d_M_tool_95 ?_
      refine r_iadd C (pc := 96) d_M_tool_96 ?_
      refine r_ild3 C (pc := 97) d_M_tool_97 ?_
      refine M_iastN C (pc := 98) hS (11 * k + t.toNat) (by omega) rfl (by decide) (by omega) (by decide)  d_M_tool_98 ?_
      refine r_ild4 C (pc := 99) d_M_tool_99 ?_
      exact r_iret C (pc := 101) hQ (⟨by unfold fTool; rw [if_neg (by omega), if_neg (by omega), if_neg (Bool.eq_false_iff.mp (anN_none _ (fun i hi => hno i (by omega)))), Int.toNat_natCast], by unfold gTool; rw [if_pos ⟨by omega, by omega, Bool.eq_false_iff.mp (anN_none _ (fun i hi => hno i (by omega)))⟩, Int.toNat_natCast]; exact RM_tool hR hO (by omega) (by omega)⟩) d_M_tool_101
    · refine r_ald0 C (pc := 54) d_M_tool_54 ?_
      refine gM_M_lookTool C (pc := 55) hS k_669 d_M_tool_55 ?_
      refine r_ild4 C (pc := 58) d_M_tool_58 ?_
      refine M_ialdN C (pc := 60) hS (j) (by omega) rfl (by decide) (by omega) (by decide) d_M_tool_60 ?_
      rw [(hR.2.2.2.2.2.2.2.2.2.2.1 j (by omega)).2.1]
      have hlo := hO.2.2.2.2.2.2.2.2.2.2.1 j (by omega)
      refine r_ild1 C (pc := 61) d_M_tool_61 ?_
      refine r_icmp_ne C (pc := 62) (tgt := 68) (by omega) (by omega) d_M_tool_62 (by decide) (fun c62 => ?_) (fun c62 => ?_)
      · refine r_iinc4 C (pc := 68) rfl d_M_tool_68 ?_
        refine r_goto C (pc := 71) (tgt := 45) d_M_tool_71 (by decide) ?_
        exact ih (j + 1) (by omega) (fun i hi => by
          rcases Nat.lt_or_ge i j with w | w
          · exact hno i w
          · show decide (S.2 10 i 1 = (k : Int)) = false
            rw [show i = j by omega]; exact decide_eq_false c62) (by omega)
      · refine r_ldc C (pc := 65) (z := (-900003)) k_805 rfl d_M_tool_65 ?_
        exact r_iret C (pc := 67) hQ (⟨by unfold fTool; rw [if_neg (by omega), if_neg (by omega), if_pos (anN_at (k := j) (by omega) (decide_eq_true c62))], by unfold gTool; rw [if_neg (fun z => z.2.2 (anN_at (k := j) (by omega) (decide_eq_true c62)))]; exact hR⟩) d_M_tool_67
set_option maxRecDepth 20000 in
theorem c_M_tool (l : Launch) (E : zE) (M : zM) (S : zS) (hR : RM S M) (hO : ok S) (k t v : Int) (hk : -2147483648 ≤ k ∧ k < 2147483648) (ht : -2147483648 ≤ t ∧ t < 2147483648) (hv : -2147483648 ≤ v ∧ v < 2147483648) : zK l sM E y_M_tool b_M_tool 5 (some .int) 1 25 [.ref (E.2.2 0), .int (iI k), .int (iI t), .int (iI v)] M (zPi (fun r M2 => r = fTool S k t v ∧ RM (gTool S k t v) M2)) := by
  refine zK.of "OldBeamsModel" rfl (by decide) (Nat.le_of_ble_eq_true rfl) ?_
  intro G hS hE hQ hL C
  subst hE
  subst hL
  show VJ G M 0 [some (.ref (G.2.1.2.2 0)), some (.int (iI k)), some (.int (iI t)), some (.int (iI v)), none] []
  have h12 := hO.n
  have hbn : M.1 0 2 = (S.1 0 : Int) := hR.1.1
  refine r_ild1 C (pc := 0) d_M_tool_0 ?_
  refine r_i2l C (pc := 1) (by omega) d_M_tool_1 ?_
  refine r_lconst C (pc := 2) (v := 0) rfl d_M_tool_2 ?_
  refine r_ldc2 C (pc := 3) k_776 d_M_tool_3 ?_
  refine call_M_in C (pc := 6) hS (c_M_in _ _ _ _ (0) (3) (by omega) (by omega) (by omega)) k_777 (by decide) (Nat.le_of_ble_eq_true rfl) rfl d_M_tool_6 (kkI (fun r6 N6 h6 => ?_))
  obtain ⟨rfl, rfl⟩ := h6
  refine r_ifneB C (pc := 9) (tgt := 15) d_M_tool_9 (by decide) (fun c9 => ?_) (fun c9 => ?_)
  · obtain ⟨k, rfl⟩ := Int.eq_ofNat_of_zero_le c9.1
    refine r_ild2 C (pc := 15) d_M_tool_15 ?_
    refine r_i2l C (pc := 16) (by omega) d_M_tool_16 ?_
    refine r_lconst C (pc := 17) (v := 0) rfl d_M_tool_17 ?_
    refine r_ldc2 C (pc := 18) k_783 d_M_tool_18 ?_
    refine call_M_in C (pc := 21) hS (c_M_in _ _ _ _ (0) (10) (by omega) (by omega) (by omega)) k_777 (by decide) (Nat.le_of_ble_eq_true rfl) rfl d_M_tool_21 (kkI (fun r21 N21 h21 => ?_))
    obtain ⟨rfl, rfl⟩ := h21
    refine r_ifeqB C (pc := 24) (tgt := 39) d_M_tool_24 (by decide) (fun c24 => ?_) (fun c24 => ?_)
    · refine r_ldc C (pc := 39) (z := (-900002)) k_784 rfl d_M_tool_39 ?_
      exact r_iret C (pc := 41) hQ (⟨by unfold fTool; rw [if_neg (by omega), if_pos (by omega)], by unfold gTool; rw [if_neg (fun z => absurd z.2.1 (by omega))]; exact hR⟩) d_M_tool_41
    · refine r_ild3 C (pc := 27) d_M_tool_27 ?_
      refine r_i2l C (pc := 28) (by omega) d_M_tool_28 ?_
      refine r_lconst C (pc := 29) (v := 0) rfl d_M_tool_29 ?_
      refine r_ldc2 C (pc := 30) k_923 d_M_tool_30 ?_
      refine call_M_in C (pc := 33) hS (c_M_in _ _ _ _ (0) (9) (by omega) (by omega) (by omega)) k_777 (by decide) (Nat.le_of_ble_eq_true rfl) rfl d_M_tool_33 (kkI (fun r33 N33 h33 => ?_))
      obtain ⟨rfl, rfl⟩ := h33
      refine r_ifneB C (pc := 36) (tgt := 42) d_M_tool_36 (by decide) (fun c36 => ?_) (fun c36 => ?_)
      · refine r_iconst C (pc := 42) d_M_tool_42 ?_
        refine r_ist4 C (pc := 43) rfl d_M_tool_43 ?_
        exact l_M_tool_45 C hS M S hR hO k (by omega) t v (by omega) (by omega) hQ (S.1 2 + 1) 0 (by omega) (fun i hi => absurd hi (Nat.not_lt_zero i)) (by omega)
      · refine r_ldc C (pc := 39) (z := (-900002)) k_784 rfl d_M_tool_39 ?_
        exact r_iret C (pc := 41) hQ (⟨by unfold fTool; rw [if_neg (by omega), if_pos (by omega)], by unfold gTool; rw [if_neg (fun z => absurd z.2.1 (by omega))]; exact hR⟩) d_M_tool_41
  · refine r_ldc C (pc := 12) (z := (-900001)) k_780 rfl d_M_tool_12 ?_
    exact r_iret C (pc := 14) hQ (⟨by unfold fTool; rw [if_pos (by omega)], by unfold gTool; rw [if_neg (fun z => c9 z.1)]; exact hR⟩) d_M_tool_14
set_option maxRecDepth 20000 in
theorem c_M_look (l : Launch) (E : zE) (M : zM) (S : zS) (hR : RM S M) (hO : ok S) (b k oc y : Int) (hb : -2147483648 ≤ b ∧ b < 2147483648) (hk : -2147483648 ≤ k ∧ k < 2147483648) (hoc : -2147483648 ≤ oc ∧ oc < 2147483648) (hy : -2147483648 ≤ y ∧ y < 2147483648) : zK l sM E y_M_look b_M_look 5 (some .int) 2 46 [.ref (E.2.2 0), .int (iI b), .int (iI k), .int (iI oc), .int (iI y)] M (zPi (fun r M2 => r = fLook S b k oc y ∧ RM (gLook S b k oc y) M2)) := by
  refine zK.of "OldBeamsModel" rfl (by decide) (Nat.le_of_ble_eq_true rfl) ?_
  intro G hS hE hQ hL C
  subst hE
  subst hL
  show VJ G M 0 [some (.ref (G.2.1.2.2 0)), some (.int (iI b)), some (.int (iI k)), some (.int (iI oc)), some (.int (iI y))] []
  have h12 := hO.n
  have hbn : M.1 0 2 = (S.1 0 : Int) := hR.1.1
  have hcap := hO.1
  refine r_ald0 C (pc := 0) d_M_look_0 ?_
  refine r_ild1 C (pc := 1) d_M_look_1 ?_
  refine call_M_isBeam C (pc := 2) hS (c_M_isBeam _ _ M S hR hO _ (by omega)) k_801 (by decide) (Nat.le_of_ble_eq_true rfl) rfl d_M_look_2 (kkI (fun r2 N2 h2 => ?_))
  obtain ⟨rfl, rfl⟩ := h2
  refine r_ifeqB C (pc := 5) (tgt := 20) d_M_look_5 (by decide) (fun c5 => ?_) (fun c5 => ?_)
  · refine r_ldc C (pc := 20) (z := (-900001)) k_780 rfl d_M_look_20 ?_
    exact r_iret C (pc := 22) hQ (⟨by unfold fLook; (try simp only [Int.toNat_natCast]); rw [if_pos (by omega)], by unfold gLook; (try simp only [Int.toNat_natCast]); rw [if_neg (by omega)]; exact hR⟩) d_M_look_22
  · obtain ⟨b, rfl⟩ := Int.eq_ofNat_of_zero_le c5.1
    have hb : b < S.1 0 := by omega
    refine r_ild2 C (pc := 8) d_M_look_8 ?_
    refine r_i2l C (pc := 9) (by omega) d_M_look_9 ?_
    refine r_lconst C (pc := 10) (v := 0) rfl d_M_look_10 ?_
    refine r_ldc2 C (pc := 11) k_776 d_M_look_11 ?_
    refine call_M_in C (pc := 14) hS (c_M_in _ _ _ _ (0) (3) (by omega) (by omega) (by omega)) k_777 (by decide) (Nat.le_of_ble_eq_true rfl) rfl d_M_look_14 (kkI (fun r14 N14 h14 => ?_))
    obtain ⟨rfl, rfl⟩ := h14
    refine r_ifneB C (pc := 17) (tgt := 23) d_M_look_17 (by decide) (fun c17 => ?_) (fun c17 => ?_)
    · refine r_ild3 C (pc := 23) d_M_look_23 ?_
      refine r_i2l C (pc := 24) (by omega) d_M_look_24 ?_
      refine r_lconst C (pc := 25) (v := 0) rfl d_M_look_25 ?_
      refine r_lconst C (pc := 26) (v := 1) rfl d_M_look_26 ?_
      refine call_M_in C (pc := 27) hS (c_M_in _ _ _ _ (0) (1) (by omega) (by omega) (by omega)) k_777 (by decide) (Nat.le_of_ble_eq_true rfl) rfl d_M_look_27 (kkI (fun r27 N27 h27 => ?_))
      obtain ⟨rfl, rfl⟩ := h27
      refine r_ifeqB C (pc := 30) (tgt := 41) d_M_look_30 (by decide) (fun c30 => ?_) (fun c30 => ?_)
      · refine r_ldc C (pc := 41) (z := (-900002)) k_784 rfl d_M_look_41 ?_
        exact r_iret C (pc := 43) hQ (⟨by unfold fLook; (try simp only [Int.toNat_natCast]); rw [if_neg (by omega), if_pos (by omega)], by unfold gLook; (try simp only [Int.toNat_natCast]); rw [if_neg (by omega)]; exact hR⟩) d_M_look_43
      · refine r_ild4 C (pc := 33) d_M_look_33 ?_
        refine call_M_isYear C (pc := 35) hS (c_M_isYear _ _ _ _ (by omega)) k_791 (by decide) (Nat.le_of_ble_eq_true rfl) rfl d_M_look_35 (kkI (fun r35 N35 h35 => ?_))
        obtain ⟨rfl, rfl⟩ := h35
        refine r_ifneB C (pc := 38) (tgt := 44) d_M_look_38 (by decide) (fun c38 => ?_) (fun c38 => ?_)
        · refine r_ald0 C (pc := 44) d_M_look_44 ?_
          refine gM_M_looks C (pc := 45) hS k_667 d_M_look_45 ?_
          rw [hR.1.2.2.1]
          refine r_if_le C (pc := 48) (tgt := 70) (by omega) d_M_look_48 (by decide) (fun c48 => ?_) (fun c48 => ?_)
          · have hly : lastY S = 0 := by unfold lastY; rw [if_neg (by omega)]
            refine r_ald0 C (pc := 70) d_M_look_70 ?_
            refine gM_M_looks C (pc := 71) hS k_667 d_M_look_71 ?_
            rw [hR.1.2.2.1]
            refine r_bipush C (pc := 74) (n := 60) rfl d_M_look_74 ?_
            refine r_icmp_eq C (pc := 76) (tgt := 89) (by omega) (by omega) d_M_look_76 (by decide) (fun c76 => ?_) (fun c76 => ?_)
            · refine r_ldc C (pc := 89) (z := (-900004)) k_795 rfl d_M_look_89 ?_
              exact r_iret C (pc := 91) hQ (⟨by unfold fLook; (try simp only [Int.toNat_natCast]); rw [if_neg (by omega), if_neg (by omega), if_neg (by omega), if_pos (by omega)], by unfold gLook; (try simp only [Int.toNat_natCast]); rw [if_neg (by omega)]; exact hR⟩) d_M_look_91
            · refine r_ald0 C (pc := 79) d_M_look_79 ?_
              refine r_ild1 C (pc := 80) d_M_look_80 ?_
              refine call_M_looksAt C (pc := 81) hS (c_M_looksAt _ _ M S hR hO b (by omega)) k_915 (by decide) (Nat.le_of_ble_eq_true rfl) rfl d_M_look_81 (kkI (fun r81 N81 h81 => ?_))
              obtain ⟨rfl, rfl⟩ := h81
              have hl8 := hO.2.2.2.2.2.2.2.2.2.2.2.1 b (by omega)
              refine r_bipush C (pc := 84) (n := 8) rfl d_M_look_84 ?_
              refine r_icmp_ne C (pc := 86) (tgt := 92) (by omega) (by omega) d_M_look_86 (by decide) (fun c86 => ?_) (fun c86 => ?_)
              · refine r_ald0 C (pc := 92) d_M_look_92 ?_
                refine gM_M_lookBeam C (pc := 93) hS k_668 d_M_look_93 ?_
                refine r_ald0 C (pc := 96) d_M_look_96 ?_
                refine gM_M_looks C (pc := 97) hS k_667 d_M_look_97 ?_
                rw [hR.1.2.2.1]
                refine r_ild1 C (pc := 100) d_M_look_100 ?_
                refine M_iastN C (pc := 101) hS (S.1 2) (by omega) rfl (by decide) (by omega) (by decide)  d_M_look_101 ?_
                refine r_ald0 C (pc := 102) d_M_look_102 ?_
                refine gM_M_lookTool C (pc := 103) hS k_669 d_M_look_103 ?_
                refine r_ald0 C (pc := 106) d_M_look_106 ?_
                refine gM_M_looks C (pc := 107) hS k_667 d_M_look_107 ?_
                rw [zI_o (by omega), hR.1.2.2.1]
                refine r_ild2 C (pc := 110) d_M_look_110 ?_
                refine M_iastN C (pc := 111) hS (S.1 2) (by omega) rfl (by decide) (by omega) (by decide)  d_M_look_111 ?_
                refine r_ald0 C (pc := 112) d_M_look_112 ?_
                refine gM_M_lookOutcome C (pc := 113) hS k_670 d_M_look_113 ?_
                refine r_ald0 C (pc := 116) d_M_look_116 ?_
                refine gM_M_looks C (pc := 117) hS k_667 d_M_look_117 ?_
                rw [zI_o (by omega), zI_o (by omega), hR.1.2.2.1]
                refine r_ild3 C (pc := 120) d_M_look_120 ?_
                refine M_iastN C (pc := 121) hS (S.1 2) (by omega) rfl (by decide) (by omega) (by decide)  d_M_look_121 ?_
                refine r_ald0 C (pc := 122) d_M_look_122 ?_
                refine gM_M_lookYear C (pc := 123) hS k_671 d_M_look_123 ?_
                refine r_ald0 C (pc := 126) d_M_look_126 ?_
                refine gM_M_looks C (pc := 127) hS k_667 d_M_look_127 ?_
                rw [zI_o (by omega), zI_o (by omega), zI_o (by omega), hR.1.2.2.1]
                refine r_ild4 C (pc := 130) d_M_look_130 ?_
                refine M_iastN C (pc := 132) hS (S.1 2) (by omega) rfl (by decide) (by omega) (by decide)  d_M_look_132 ?_
                refine r_ald0 C (pc := 133) d_M_look_133 ?_
                refine r_dup C (pc := 134) rfl d_M_look_134 ?_
                refine gM_M_looks C (pc := 135) hS k_667 d_M_look_135 ?_
                rw [zI_o (by omega), zI_o (by omega), zI_o (by omega), zI_o (by omega), hR.1.2.2.1]
                refine r_iconst C (pc := 138) d_M_look_138 ?_
                refine r_iadd C (pc := 139) d_M_look_139 ?_
                refine pM_M_looks C (pc := 140) hS k_667 d_M_look_140 ?_
                refine r_ald0 C (pc := 143) d_M_look_143 ?_
                refine gM_M_looks C (pc := 144) hS k_667 d_M_look_144 ?_
                rw [zI_same]
                refine r_iconst C (pc := 147) d_M_look_147 ?_
                refine r_isub C (pc := 148) d_M_look_148 ?_
                exact r_iret C (pc := 149) hQ (⟨by unfold fLook; (try simp only [Int.toNat_natCast]); rw [if_neg (by omega), if_neg (by omega), if_neg (by omega), if_neg (by omega)]; omega, by unfold gLook; (try simp only [Int.toNat_natCast]); rw [if_pos (by omega)]; exact RM_look hR hO (by omega)⟩) d_M_look_149
              · refine r_ldc C (pc := 89) (z := (-900004)) k_795 rfl d_M_look_89 ?_
                exact r_iret C (pc := 91) hQ (⟨by unfold fLook; (try simp only [Int.toNat_natCast]); rw [if_neg (by omega), if_neg (by omega), if_neg (by omega), if_pos (by omega)], by unfold gLook; (try simp only [Int.toNat_natCast]); rw [if_neg (by omega)]; exact hR⟩) d_M_look_91
          · have hly : lastY S = S.2 10 (S.1 2 - 1) 3 := by unfold lastY; rw [if_pos (by omega)]
            have hlo := (hO.2.2.2.2.2.2.2.2.2.2.1 (S.1 2 - 1) (by omega)).2.2.2
            refine r_ild4 C (pc := 51) d_M_look_51 ?_
            refine r_ald0 C (pc := 53) d_M_look_53 ?_
            refine gM_M_lookYear C (pc := 54) hS k_671 d_M_look_54 ?_
            refine r_ald0 C (pc := 57) d_M_look_57 ?_
            refine gM_M_looks C (pc := 58) hS k_667 d_M_look_58 ?_
            rw [hR.1.2.2.1]
            refine r_iconst C (pc := 61) d_M_look_61 ?_
            refine r_isub C (pc := 62) d_M_look_62 ?_
            refine M_ialdN C (pc := 63) hS (S.1 2 - 1) (by omega) rfl (by decide) (by omega) (by decide) d_M_look_63 ?_
            rw [(hR.2.2.2.2.2.2.2.2.2.2.1 (S.1 2 - 1) (by omega)).2.2.2]
            refine r_icmp_ge C (pc := 64) (tgt := 70) (by omega) (by omega) d_M_look_64 (by decide) (fun c64 => ?_) (fun c64 => ?_)
            · refine r_ald0 C (pc := 70) d_M_look_70 ?_
              refine gM_M_looks C (pc := 71) hS k_667 d_M_look_71 ?_
              rw [hR.1.2.2.1]
              refine r_bipush C (pc := 74) (n := 60) rfl d_M_look_74 ?_
              refine r_icmp_eq C (pc := 76) (tgt := 89) (by omega) (by omega) d_M_look_76 (by decide) (fun c76 => ?_) (fun c76 => ?_)
              · refine r_ldc C (pc := 89) (z := (-900004)) k_795 rfl d_M_look_89 ?_
                exact r_iret C (pc := 91) hQ (⟨by unfold fLook; (try simp only [Int.toNat_natCast]); rw [if_neg (by omega), if_neg (by omega), if_neg (by omega), if_pos (by omega)], by unfold gLook; (try simp only [Int.toNat_natCast]); rw [if_neg (by omega)]; exact hR⟩) d_M_look_91
              · refine r_ald0 C (pc := 79) d_M_look_79 ?_
                refine r_ild1 C (pc := 80) d_M_look_80 ?_
                refine call_M_looksAt C (pc := 81) hS (c_M_looksAt _ _ M S hR hO b (by omega)) k_915 (by decide) (Nat.le_of_ble_eq_true rfl) rfl d_M_look_81 (kkI (fun r81 N81 h81 => ?_))
                obtain ⟨rfl, rfl⟩ := h81
                have hl8 := hO.2.2.2.2.2.2.2.2.2.2.2.1 b (by omega)
                refine r_bipush C (pc := 84) (n := 8) rfl d_M_look_84 ?_
                refine r_icmp_ne C (pc := 86) (tgt := 92) (by omega) (by omega) d_M_look_86 (by decide) (fun c86 => ?_) (fun c86 => ?_)
                · refine r_ald0 C (pc := 92) d_M_look_92 ?_
                  refine gM_M_lookBeam C (pc := 93) hS k_668 d_M_look_93 ?_
                  refine r_ald0 C (pc := 96) d_M_look_96 ?_
                  refine gM_M_looks C (pc := 97) hS k_667 d_M_look_97 ?_
                  rw [hR.1.2.2.1]
                  refine r_ild1 C (pc := 100) d_M_look_100 ?_
                  refine M_iastN C (pc := 101) hS (S.1 2) (by omega) rfl (by decide) (by omega) (by decide)  d_M_look_101 ?_
                  refine r_ald0 C (pc := 102) d_M_look_102 ?_
                  refine gM_M_lookTool C (pc := 103) hS k_669 d_M_look_103 ?_
                  refine r_ald0 C (pc := 106) d_M_look_106 ?_
                  refine gM_M_looks C (pc := 107) hS k_667 d_M_look_107 ?_
                  rw [zI_o (by omega), hR.1.2.2.1]
                  refine r_ild2 C (pc := 110) d_M_look_110 ?_
                  refine M_iastN C (pc := 111) hS (S.1 2) (by omega) rfl (by decide) (by omega) (by decide)  d_M_look_111 ?_
                  refine r_ald0 C (pc := 112) d_M_look_112 ?_
                  refine gM_M_lookOutcome C (pc := 113) hS k_670 d_M_look_113 ?_
                  refine r_ald0 C (pc := 116) d_M_look_116 ?_
                  refine gM_M_looks C (pc := 117) hS k_667 d_M_look_117 ?_
                  rw [zI_o (by omega), zI_o (by omega), hR.1.2.2.1]
                  refine r_ild3 C (pc := 120) d_M_look_120 ?_
                  refine M_iastN C (pc := 121) hS (S.1 2) (by omega) rfl (by decide) (by omega) (by decide)  d_M_look_121 ?_
                  refine r_ald0 C (pc := 122) d_M_look_122 ?_
                  refine gM_M_lookYear C (pc := 123) hS k_671 d_M_look_123 ?_
                  refine r_ald0 C (pc := 126) d_M_look_126 ?_
                  refine gM_M_looks C (pc := 127) hS k_667 d_M_look_127 ?_
                  rw [zI_o (by omega), zI_o (by omega), zI_o (by omega), hR.1.2.2.1]
                  refine r_ild4 C (pc := 130) d_M_look_130 ?_
                  refine M_iastN C (pc := 132) hS (S.1 2) (by omega) rfl (by decide) (by omega) (by decide)  d_M_look_132 ?_
                  refine r_ald0 C (pc := 133) d_M_look_133 ?_
                  refine r_dup C (pc := 134) rfl d_M_look_134 ?_
                  refine gM_M_looks C (pc := 135) hS k_667 d_M_look_135 ?_
                  rw [zI_o (by omega), zI_o (by omega), zI_o (by omega), zI_o (by omega), hR.1.2.2.1]
                  refine r_iconst C (pc := 138) d_M_look_138 ?_
                  refine r_iadd C (pc := 139) d_M_look_139 ?_
                  refine pM_M_looks C (pc := 140) hS k_667 d_M_look_140 ?_
                  refine r_ald0 C (pc := 143) d_M_look_143 ?_
                  refine gM_M_looks C (pc := 144) hS k_667 d_M_look_144 ?_
                  rw [zI_same]
                  refine r_iconst C (pc := 147) d_M_look_147 ?_
                  refine r_isub C (pc := 148) d_M_look_148 ?_
                  exact r_iret C (pc := 149) hQ (⟨by unfold fLook; (try simp only [Int.toNat_natCast]); rw [if_neg (by omega), if_neg (by omega), if_neg (by omega), if_neg (by omega)]; omega, by unfold gLook; (try simp only [Int.toNat_natCast]); rw [if_pos (by omega)]; exact RM_look hR hO (by omega)⟩) d_M_look_149
                · refine r_ldc C (pc := 89) (z := (-900004)) k_795 rfl d_M_look_89 ?_
                  exact r_iret C (pc := 91) hQ (⟨by unfold fLook; (try simp only [Int.toNat_natCast]); rw [if_neg (by omega), if_neg (by omega), if_neg (by omega), if_pos (by omega)], by unfold gLook; (try simp only [Int.toNat_natCast]); rw [if_neg (by omega)]; exact hR⟩) d_M_look_91
            · refine r_ldc C (pc := 67) (z := (-900003)) k_805 rfl d_M_look_67 ?_
              exact r_iret C (pc := 69) hQ (⟨by unfold fLook; (try simp only [Int.toNat_natCast]); rw [if_neg (by omega), if_neg (by omega), if_pos (by omega)], by unfold gLook; (try simp only [Int.toNat_natCast]); rw [if_neg (by omega)]; exact hR⟩) d_M_look_69
        · refine r_ldc C (pc := 41) (z := (-900002)) k_784 rfl d_M_look_41 ?_
          exact r_iret C (pc := 43) hQ (⟨by unfold fLook; (try simp only [Int.toNat_natCast]); rw [if_neg (by omega), if_pos (by omega)], by unfold gLook; (try simp only [Int.toNat_natCast]); rw [if_neg (by omega)]; exact hR⟩) d_M_look_43
    · refine r_ldc C (pc := 20) (z := (-900001)) k_780 rfl d_M_look_20 ?_
      exact r_iret C (pc := 22) hQ (⟨by unfold fLook; (try simp only [Int.toNat_natCast]); rw [if_pos (by omega)], by unfold gLook; (try simp only [Int.toNat_natCast]); rw [if_neg (by omega)]; exact hR⟩) d_M_look_22
