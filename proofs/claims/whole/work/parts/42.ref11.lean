set_option maxRecDepth 20000 in
theorem c_M_about (l : Launch) (E : zE) (M : zM) (S : zS) (hR : RM S M) (hO : ok S) (b q : Int) (hb : -2147483648 ≤ b ∧ b < 2147483648) (hq : -2147483648 ≤ q ∧ q < 2147483648) : zK l sM E y_M_about b_M_about 3 (some .int) 4 92 [.ref (E.2.2 0), .int (iI b), .int (iI q)] M (zPi (fun r M2 => r = fAbout S b q ∧ RM S M2)) := by
  refine zK.of "OldBeamsModel" rfl (by decide) (Nat.le_of_ble_eq_true rfl) ?_
  intro G hS hE hQ hL C
  subst hE
  subst hL
  show VJ G M 0 [some (.ref (G.2.1.2.2 0)), some (.int (iI b)), some (.int (iI q))] []
  have h12 := hO.n
  have hbn : M.1 0 2 = (S.1 0 : Int) := hR.1.1
  refine r_ald0 C (pc := 0) d_M_about_0 ?_
  refine r_ild1 C (pc := 1) d_M_about_1 ?_
  refine call_M_isBeam C (pc := 2) hS (c_M_isBeam _ _ M S hR hO _ (by omega)) k_801 (by decide) (Nat.le_of_ble_eq_true rfl) rfl d_M_about_2 (kkI (fun r2 N2 h2 => ?_))
  obtain ⟨rfl, rfl⟩ := h2
  refine r_ifneB C (pc := 5) (tgt := 11) d_M_about_5 (by decide) (fun c5 => ?_) (fun c5 => ?_)
  · obtain ⟨b, rfl⟩ := Int.eq_ofNat_of_zero_le c5.1
    have hb : b < S.1 0 := by omega
    have hwo := (hO.2.2.2.1 b (by omega)).1
    refine r_ald0 C (pc := 11) d_M_about_11 ?_
    refine call_M_layNow C (pc := 12) hS (c_M_layNow _ _ M S hR hO) k_810 (by decide) (Nat.le_of_ble_eq_true rfl) rfl d_M_about_12 (kkV (fun N12 h12 => ?_))
    obtain ⟨b1, b2, b4, b3⟩ := h12
    have hR2 := RMk hR hO b1
    obtain ⟨⟨-, e1, -⟩, hrs⟩ := hR2.2.2.1 b hb
    refine r_ild2 C (pc := 15) d_M_about_15 ?_
    rcases (show q = 0 ∨ q = 1 ∨ q = 2 ∨ q = 3 ∨ q = 4 ∨ q = 5 ∨ q = 6 ∨ q = 7 ∨ (q < 0 ∨ 7 < q) by omega) with e16 | e16 | e16 | e16 | e16 | e16 | e16 | e16 | e16
    · rw [e16]
      refine r_tabIn C (pc := 16) (tgt := 64) (by decide) d_M_about_16 (by decide) (by decide) rfl (by decide) ?_
      refine r_ald0 C (pc := 64) d_M_about_64 ?_
      refine gM_M_length C (pc := 65) hS k_640 d_M_about_65 ?_
      refine r_ild1 C (pc := 68) d_M_about_68 ?_
      refine M_ialdN C (pc := 69) hS (b) (by omega) rfl (by decide) (by omega) (by decide) d_M_about_69 ?_
      rw [e1]
      exact r_iret C (pc := 70) hQ (⟨by rw [e16]; unfold fAbout; rw [if_neg (by omega), Int.toNat_natCast]; rfl, hR2⟩) d_M_about_70
    · rw [e16]
      refine r_tabIn C (pc := 16) (tgt := 71) (by decide) d_M_about_16 (by decide) (by decide) rfl (by decide) ?_
      refine r_ald0 C (pc := 71) d_M_about_71 ?_
      refine gM_M_seatAt C (pc := 72) hS k_645 d_M_about_72 ?_
      refine r_iconst C (pc := 75) d_M_about_75 ?_
      refine r_ild1 C (pc := 76) d_M_about_76 ?_
      refine r_imul C (pc := 77) d_M_about_77 ?_
      refine M_ialdN C (pc := 78) hS (2 * b) (by omega) rfl (by decide) (by omega) (by decide) d_M_about_78 ?_
      exact r_iret C (pc := 79) hQ (⟨by rw [e16]; unfold fAbout; rw [if_neg (by omega), Int.toNat_natCast]; exact (hrs 0 (by omega)).1, hR2⟩) d_M_about_79
    · rw [e16]
      refine r_tabIn C (pc := 16) (tgt := 80) (by decide) d_M_about_16 (by decide) (by decide) rfl (by decide) ?_
      refine r_ald0 C (pc := 80) d_M_about_80 ?_
      refine gM_M_seatAt C (pc := 81) hS k_645 d_M_about_81 ?_
      refine r_iconst C (pc := 84) d_M_about_84 ?_
      refine r_ild1 C (pc := 85) d_M_about_85 ?_
      refine r_imul C (pc := 86) d_M_about_86 ?_
      refine r_iconst C (pc := 87) d_M_about_87 ?_
      refine r_iadd C (pc := 88) d_M_about_88 ?_
      refine M_ialdN C (pc := 89) hS (2 * b + 1) (by omega) rfl (by decide) (by omega) (by decide) d_M_about_89 ?_
      exact r_iret C (pc := 90) hQ (⟨by rw [e16]; unfold fAbout; rw [if_neg (by omega), Int.toNat_natCast]; exact (hrs 1 (by omega)).1, hR2⟩) d_M_about_90
    · rw [e16]
      refine r_tabIn C (pc := 16) (tgt := 91) (by decide) d_M_about_16 (by decide) (by decide) rfl (by decide) ?_
      refine r_ald0 C (pc := 91) d_M_about_91 ?_
      refine gM_M_seatOn C (pc := 92) hS k_646 d_M_about_92 ?_
      refine r_iconst C (pc := 95) d_M_about_95 ?_
      refine r_ild1 C (pc := 96) d_M_about_96 ?_
      refine r_imul C (pc := 97) d_M_about_97 ?_
      refine M_ialdN C (pc := 98) hS (2 * b) (by omega) rfl (by decide) (by omega) (by decide) d_M_about_98 ?_
      exact r_iret C (pc := 99) hQ (⟨by rw [e16]; unfold fAbout; rw [if_neg (by omega), Int.toNat_natCast]; exact (hrs 0 (by omega)).2.1, hR2⟩) d_M_about_99
    · rw [e16]
      refine r_tabIn C (pc := 16) (tgt := 100) (by decide) d_M_about_16 (by decide) (by decide) rfl (by decide) ?_
      refine r_ald0 C (pc := 100) d_M_about_100 ?_
      refine gM_M_seatOn C (pc := 101) hS k_646 d_M_about_101 ?_
      refine r_iconst C (pc := 104) d_M_about_104 ?_
      refine r_ild1 C (pc := 105) d_M_about_105 ?_
      refine r_imul C (pc := 106) d_M_about_106 ?_
      refine r_iconst C (pc := 107) d_M_about_107 ?_
      refine r_iadd C (pc := 108) d_M_about_108 ?_
      refine M_ialdN C (pc := 109) hS (2 * b + 1) (by omega) rfl (by decide) (by omega) (by decide) d_M_about_109 ?_
      exact r_iret C (pc := 110) hQ (⟨by rw [e16]; unfold fAbout; rw [if_neg (by omega), Int.toNat_natCast]; exact (hrs 1 (by omega)).2.1, hR2⟩) d_M_about_110
    · rw [e16]
      refine r_tabIn C (pc := 16) (tgt := 111) (by decide) d_M_about_16 (by decide) (by decide) rfl (by decide) ?_
      refine r_ald0 C (pc := 111) d_M_about_111 ?_
      refine r_ild1 C (pc := 112) d_M_about_112 ?_
      refine call_M_whole C (pc := 113) hS (c_M_whole _ _ N12 S hR2 hO b hb) k_841 (by decide) (Nat.le_of_ble_eq_true rfl) rfl d_M_about_113 (kkI (fun r113 N113 h113 => ?_))
      obtain ⟨rfl, rfl⟩ := h113
      exact r_iret C (pc := 116) hQ (⟨by rw [e16]; unfold fAbout; rw [if_neg (by omega), Int.toNat_natCast]; rfl, hR2⟩) d_M_about_116
    · rw [e16]
      refine r_tabIn C (pc := 16) (tgt := 117) (by decide) d_M_about_16 (by decide) (by decide) rfl (by decide) ?_
      refine r_ald0 C (pc := 117) d_M_about_117 ?_
      refine gM_M_isWet C (pc := 118) hS k_643 d_M_about_118 ?_
      refine r_ild1 C (pc := 121) d_M_about_121 ?_
      refine M_baldN C (pc := 122) hS (b) (by omega) rfl (by decide) (by omega) (by decide) d_M_about_122 ?_
      rw [(hR2.2.2.2.1 b (by omega)).1]
      refine r_if_eq C (pc := 123) (tgt := 130) (by omega) d_M_about_123 (by decide) (fun c123 => ?_) (fun c123 => ?_)
      · refine r_iconst C (pc := 130) d_M_about_130 ?_
        exact r_iret C (pc := 131) hQ (⟨by rw [e16]; unfold fAbout; rw [if_neg (by omega), Int.toNat_natCast]; show _ = S.2 2 b 4; omega, hR2⟩) d_M_about_131
      · refine r_iconst C (pc := 126) d_M_about_126 ?_
        refine r_goto C (pc := 127) (tgt := 131) d_M_about_127 (by decide) ?_
        exact r_iret C (pc := 131) hQ (⟨by rw [e16]; unfold fAbout; rw [if_neg (by omega), Int.toNat_natCast]; show _ = S.2 2 b 4; omega, hR2⟩) d_M_about_131
    · rw [e16]
      refine r_tabIn C (pc := 16) (tgt := 132) (by decide) d_M_about_16 (by decide) (by decide) rfl (by decide) ?_
      refine r_ald0 C (pc := 132) d_M_about_132 ?_
      refine gM_M_isDown C (pc := 133) hS k_660 d_M_about_133 ?_
      refine r_ild1 C (pc := 136) d_M_about_136 ?_
      refine M_baldN C (pc := 137) hS (b) (by omega) rfl (by decide) (by omega) (by decide) d_M_about_137 ?_
      rw [b2 b hb]
      refine r_ifeqB C (pc := 138) (tgt := 145) d_M_about_138 (by decide) (fun c138 => ?_) (fun c138 => ?_)
      · refine r_iconst C (pc := 145) d_M_about_145 ?_
        exact r_iret C (pc := 146) hQ (⟨by rw [e16]; unfold fAbout; rw [if_neg (by omega), Int.toNat_natCast]; first | exact zb_of1 c138 | exact zb_of0 c138, hR2⟩) d_M_about_146
      · refine r_iconst C (pc := 141) d_M_about_141 ?_
        refine r_goto C (pc := 142) (tgt := 146) d_M_about_142 (by decide) ?_
        exact r_iret C (pc := 146) hQ (⟨by rw [e16]; unfold fAbout; rw [if_neg (by omega), Int.toNat_natCast]; first | exact zb_of1 c138 | exact zb_of0 c138, hR2⟩) d_M_about_146
    · refine r_tabOut C (pc := 16) (tgt := 147) (by omega) d_M_about_16 e16 (by decide) ?_
      refine r_ldc C (pc := 147) (z := (-900002)) k_784 rfl d_M_about_147 ?_
      exact r_iret C (pc := 149) hQ (⟨by unfold fAbout; rw [if_neg (by omega), if_neg (by omega), if_neg (by omega), if_neg (by omega), if_neg (by omega), if_neg (by omega), if_neg (by omega), if_neg (by omega), if_neg (by omega)], hR2⟩) d_M_about_149
  · refine r_ldc C (pc := 8) (z := (-900001)) k_780 rfl d_M_about_8 ?_
    exact r_iret C (pc := 10) hQ (⟨by unfold fAbout; rw [if_pos (by omega)], hR⟩) d_M_about_10
theorem ps_ext {S : zS} (hO : ok S) : dcnt (psS S) (S.1 3) = dcnt (psS S) 8 := by
  have h := hO.1
  rw [show 8 = S.1 3 + (8 - S.1 3) by omega, dcnt_ext (f := psS S) (8 - S.1 3) (fun j h1 h2 => decide_eq_false (by rw [(hO.2.2.2.2.2.2.2.1 j (by omega)).2 h1]; decide))]
set_option maxRecDepth 20000 in
theorem l_M_count_43 {G : zG} (C : zC G b_M_count "OldBeamsModel" (some .int) 5 4 92) (hS : G.1 = sM) (M : zM) (S : zS) (hR : RM S M) (hO : ok S) (q : Int) (hq : -2147483648 ≤ q ∧ q < 2147483648) (hQ : G.2.2.1 = zPi (fun r M2 => r = fCount S q ∧ RM S M2)) : ∀ (n : Nat) (j : Nat), (j ≤ S.1 3) → (S.1 3 - j < n) → VJ G M 43 [some (.ref (zad G 0)), some (.int (iI q)), some (.int (iI (dcnt (fun l => decide (S.2 6 l 3 = 1)) (S.1 1) : Int))), some (.int (iI (dcnt (psS S) j : Int))), some (.int (iI (j : Int)))] [] := by
  intro n
  induction n with
  | zero =>
    intro j hj hn
    exact absurd hn (by omega)
  | succ n ih =>
    intro j hj hn
    have h12 := hO.n
    have hbn : M.1 0 2 = (S.1 0 : Int) := hR.1.1
    have hcap := hO.1
    have es := dcnt_succ (psS S) j
    have hdl := dcnt_le (psS S) j
    refine r_ild4 C (pc := 43) d_M_count_43 ?_
    refine r_ald0 C (pc := 45) d_M_count_45 ?_
    refine gM_M_props C (pc := 46) hS k_653 d_M_count_46 ?_
    rw [hR.1.2.2.2]
    refine r_icmp_ge C (pc := 49) (tgt := 76) (by omega) (by omega) d_M_count_49 (by decide) (fun c49 => ?_) (fun c49 => ?_)
    · refine r_ild1 C (pc := 76) d_M_count_76 ?_
      rcases (show q = 0 ∨ q = 1 ∨ q = 2 ∨ q = 3 ∨ q = 4 ∨ q = 5 ∨ (q < 0 ∨ 5 < q) by omega) with e77 | e77 | e77 | e77 | e77 | e77 | e77
      · rw [e77]
        refine r_tabIn C (pc := 77) (tgt := 116) (by decide) d_M_count_77 (by decide) (by decide) rfl (by decide) ?_
        refine r_ald0 C (pc := 116) d_M_count_116 ?_
        refine gM_M_beams C (pc := 117) hS k_638 d_M_count_117 ?_
        rw [hbn]
        exact r_iret C (pc := 120) hQ (⟨by rw [e77]; rfl, hR⟩) d_M_count_120
      · rw [e77]
        refine r_tabIn C (pc := 77) (tgt := 121) (by decide) d_M_count_77 (by decide) (by decide) rfl (by decide) ?_
        refine r_ild2 C (pc := 121) d_M_count_121 ?_
        exact r_iret C (pc := 122) hQ (⟨by rw [e77]; rfl, hR⟩) d_M_count_122
      · rw [e77]
        refine r_tabIn C (pc := 77) (tgt := 123) (by decide) d_M_count_77 (by decide) (by decide) rfl (by decide) ?_
        refine r_ald0 C (pc := 123) d_M_count_123 ?_
        refine gM_M_looks C (pc := 124) hS k_667 d_M_count_124 ?_
        rw [hR.1.2.2.1]
        exact r_iret C (pc := 127) hQ (⟨by rw [e77]; rfl, hR⟩) d_M_count_127
      · rw [e77]
        refine r_tabIn C (pc := 77) (tgt := 128) (by decide) d_M_count_77 (by decide) (by decide) rfl (by decide) ?_
        refine r_ald0 C (pc := 128) d_M_count_128 ?_
        refine gM_M_props C (pc := 129) hS k_653 d_M_count_129 ?_
        rw [hR.1.2.2.2]
        exact r_iret C (pc := 132) hQ (⟨by rw [e77]; rfl, hR⟩) d_M_count_132
      · rw [e77]
        refine r_tabIn C (pc := 77) (tgt := 133) (by decide) d_M_count_77 (by decide) (by decide) rfl (by decide) ?_
        refine r_ild3 C (pc := 133) d_M_count_133 ?_
        exact r_iret C (pc := 134) hQ (⟨by rw [e77, show j = S.1 3 by omega, ps_ext hO]; rfl, hR⟩) d_M_count_134
      · rw [e77]
        refine r_tabIn C (pc := 77) (tgt := 135) (by decide) d_M_count_77 (by decide) (by decide) rfl (by decide) ?_
        refine r_ald0 C (pc := 135) d_M_count_135 ?_
        refine call_M_layNow C (pc := 136) hS (c_M_layNow _ _ M S hR hO) k_810 (by decide) (Nat.le_of_ble_eq_true rfl) rfl d_M_count_136 (kkV (fun N136 h136 => ?_))
        obtain ⟨b1, b2, b4, b3⟩ := h136
        have hR2 := RMk hR hO b1
        refine r_ald0 C (pc := 139) d_M_count_139 ?_
        refine call_M_downMany C (pc := 140) hS (c_M_downMany _ _ N136 S hR2 hO (dA S (flS S)) b2) k_870 (by decide) (Nat.le_of_ble_eq_true rfl) rfl d_M_count_140 (kkI (fun r140 N140 h140 => ?_))
        obtain ⟨rfl, rfl⟩ := h140
        exact r_iret C (pc := 143) hQ (⟨by rw [e77]; rfl, hR2⟩) d_M_count_143
      · refine r_tabOut C (pc := 77) (tgt := 144) (by omega) d_M_count_77 e77 (by decide) ?_
        refine r_ldc C (pc := 144) (z := (-900002)) k_784 rfl d_M_count_144 ?_
        exact r_iret C (pc := 146) hQ (⟨by unfold fCount; rw [if_neg (by omega), if_neg (by omega), if_neg (by omega), if_neg (by omega), if_neg (by omega), if_neg (by omega)], hR⟩) d_M_count_146
    · refine r_ild3 C (pc := 52) d_M_count_52 ?_
      refine r_ald0 C (pc := 53) d_M_count_53 ?_
      refine gM_M_isSet C (pc := 54) hS k_657 d_M_count_54 ?_
      refine r_ild4 C (pc := 57) d_M_count_57 ?_
      refine M_baldN C (pc := 59) hS (j) (by omega) rfl (by decide) (by omega) (by decide) d_M_count_59 ?_
      rw [hR.2.2.2.2.2.2.2.1 j (by omega)]
      have hpo := (hO.2.2.2.2.2.2.2.1 j (by omega)).1
      refine r_if_eq C (pc := 60) (tgt := 67) (by omega) d_M_count_60 (by decide) (fun c60 => ?_) (fun c60 => ?_)
      · have hp0 : psS S j = false := decide_eq_false (by omega)
        refine r_iconst C (pc := 67) d_M_count_67 ?_
        refine r_iadd C (pc := 68) d_M_count_68 ?_
        refine r_ist3 C (pc := 69) rfl d_M_count_69 ?_
        refine r_iinc4 C (pc := 70) rfl d_M_count_70 ?_
        refine r_goto C (pc := 73) (tgt := 43) d_M_count_73 (by decide) ?_
        refine r_weak ?_ (ih (j + 1) (by omega) (by omega))
        exact ⟨Or.inr rfl, Or.inr rfl, Or.inr rfl, Or.inr (by rw [es, hp0]; rfl), Or.inr rfl, trivial⟩
      · have hp0 : psS S j = true := decide_eq_true (by omega)
        refine r_iconst C (pc := 63) d_M_count_63 ?_
        refine r_goto C (pc := 64) (tgt := 68) d_M_count_64 (by decide) ?_
        refine r_iadd C (pc := 68) d_M_count_68 ?_
        refine r_ist3 C (pc := 69) rfl d_M_count_69 ?_
        refine r_iinc4 C (pc := 70) rfl d_M_count_70 ?_
        refine r_goto C (pc := 73) (tgt := 43) d_M_count_73 (by decide) ?_
        refine r_weak ?_ (ih (j + 1) (by omega) (by omega))
        exact ⟨Or.inr rfl, Or.inr rfl, Or.inr rfl, Or.inr (by rw [es, hp0]; rfl), Or.inr rfl, trivial⟩
set_option maxRecDepth 20000 in
theorem l_M_count_7 {G : zG} (C : zC G b_M_count "OldBeamsModel" (some .int) 5 4 92) (hS : G.1 = sM) (M : zM) (S : zS) (hR : RM S M) (hO : ok S) (q : Int) (hq : -2147483648 ≤ q ∧ q < 2147483648) (hQ : G.2.2.1 = zPi (fun r M2 => r = fCount S q ∧ RM S M2)) : ∀ (n : Nat) (j : Nat), (j ≤ S.1 1) → (S.1 1 - j < n) → VJ G M 7 [some (.ref (zad G 0)), some (.int (iI q)), some (.int (iI (dcnt (fun l => decide (S.2 6 l 3 = 1)) j : Int))), some (.int (iI 0)), some (.int (iI (j : Int)))] [] := by
  intro n
  induction n with
  | zero =>
    intro j hj hn
    exact absurd hn (by omega)
  | succ n ih =>
    intro j hj hn
    have h12 := hO.n
    have hbn : M.1 0 2 = (S.1 0 : Int) := hR.1.1
    have hcap := hO.1
    have es := dcnt_succ (fun l => decide (S.2 6 l 3 = 1)) j
    have hdl := dcnt_le (fun l => decide (S.2 6 l 3 = 1)) j
    refine r_ild4 C (pc := 7) d_M_count_7 ?_
    refine r_ald0 C (pc := 9) d_M_count_9 ?_
    refine gM_M_loads C (pc := 10) hS k_648 d_M_count_10 ?_
    rw [hR.1.2.1]
    refine r_icmp_ge C (pc := 13) (tgt := 40) (by omega) (by omega) d_M_count_13 (by decide) (fun c13 => ?_) (fun c13 => ?_)
    · refine r_iconst C (pc := 40) d_M_count_40 ?_
      refine r_ist4 C (pc := 41) rfl d_M_count_41 ?_
      refine r_weak ?_ (l_M_count_43 C hS M S hR hO q hq hQ (S.1 3 + 1) 0 (by omega) (by omega))
      exact ⟨Or.inr rfl, Or.inr rfl, Or.inr (by rw [show S.1 1 = j by omega]), Or.inr rfl, Or.inr rfl, trivial⟩
    · refine r_ild2 C (pc := 16) d_M_count_16 ?_
      refine r_ald0 C (pc := 17) d_M_count_17 ?_
      refine gM_M_isOff C (pc := 18) hS k_652 d_M_count_18 ?_
      refine r_ild4 C (pc := 21) d_M_count_21 ?_
      refine M_baldN C (pc := 23) hS (j) (by omega) rfl (by decide) (by omega) (by decide) d_M_count_23 ?_
      rw [hR.2.2.2.2.2.1 j (by omega), if_pos (by omega)]
      have hlo := (hO.2.2.2.2.2.1 j (by omega)).2.2.2
      refine r_if_eq C (pc := 24) (tgt := 31) (by omega) d_M_count_24 (by decide) (fun c24 => ?_) (fun c24 => ?_)
      · have hp0 : decide (S.2 6 j 3 = 1) = true := decide_eq_true (by omega)
        refine r_iconst C (pc := 31) d_M_count_31 ?_
        refine r_iadd C (pc := 32) d_M_count_32 ?_
        refine r_ist2 C (pc := 33) rfl d_M_count_33 ?_
        refine r_iinc4 C (pc := 34) rfl d_M_count_34 ?_
        refine r_goto C (pc := 37) (tgt := 7) d_M_count_37 (by decide) ?_
        refine r_weak ?_ (ih (j + 1) (by omega) (by omega))
        exact ⟨Or.inr rfl, Or.inr rfl, Or.inr (by rw [es, hp0]; rfl), Or.inr rfl, Or.inr rfl, trivial⟩
      · have hp0 : decide (S.2 6 j 3 = 1) = false := decide_eq_false (by omega)
        refine r_iconst C (pc := 27) d_M_count_27 ?_
        refine r_goto C (pc := 28) (tgt := 32) d_M_count_28 (by decide) ?_
        refine r_iadd C (pc := 32) d_M_count_32 ?_
        refine r_ist2 C (pc := 33) rfl d_M_count_33 ?_
        refine r_iinc4 C (pc := 34) rfl d_M_count_34 ?_
        refine r_goto C (pc := 37) (tgt := 7) d_M_count_37 (by decide) ?_
        refine r_weak ?_ (ih (j + 1) (by omega) (by omega))
        exact ⟨Or.inr rfl, Or.inr rfl, Or.inr (by rw [es, hp0]; rfl), Or.inr rfl, Or.inr rfl, trivial⟩
set_option maxRecDepth 20000 in
theorem c_M_count (l : Launch) (E : zE) (M : zM) (S : zS) (hR : RM S M) (hO : ok S) (q : Int) (hq : -2147483648 ≤ q ∧ q < 2147483648) : zK l sM E y_M_count b_M_count 5 (some .int) 4 92 [.ref (E.2.2 0), .int (iI q)] M (zPi (fun r M2 => r = fCount S q ∧ RM S M2)) := by
  refine zK.of "OldBeamsModel" rfl (by decide) (Nat.le_of_ble_eq_true rfl) ?_
  intro G hS hE hQ hL C
  subst hE
  subst hL
  show VJ G M 0 [some (.ref (G.2.1.2.2 0)), some (.int (iI q)), none, none, none] []
  refine r_iconst C (pc := 0) d_M_count_0 ?_
  refine r_ist2 C (pc := 1) rfl d_M_count_1 ?_
  refine r_iconst C (pc := 2) d_M_count_2 ?_
  refine r_ist3 C (pc := 3) rfl d_M_count_3 ?_
  refine r_iconst C (pc := 4) d_M_count_4 ?_
  refine r_ist4 C (pc := 5) rfl d_M_count_5 ?_
  exact l_M_count_7 C hS M S hR hO q hq hQ (S.1 1 + 1) 0 (by omega) (by omega)
set_option maxRecDepth 20000 in
theorem c_M_fall (l : Launch) (E : zE) (M : zM) (S : zS) (hR : RM S M) (hO : ok S) (b : Int) (hb : -2147483648 ≤ b ∧ b < 2147483648) : zK l sM E y_M_fall b_M_fall 2 (some .int) 4 92 [.ref (E.2.2 0), .int (iI b)] M (zPi (fun r M2 => r = fFall S b ∧ RM (gFall S b) M2)) := by
  refine zK.of "OldBeamsModel" rfl (by decide) (Nat.le_of_ble_eq_true rfl) ?_
  intro G hS hE hQ hL C
  subst hE
  subst hL
  show VJ G M 0 [some (.ref (G.2.1.2.2 0)), some (.int (iI b))] []
  have h12 := hO.n
  have hbn : M.1 0 2 = (S.1 0 : Int) := hR.1.1
  refine r_ald0 C (pc := 0) d_M_fall_0 ?_
  refine r_ild1 C (pc := 1) d_M_fall_1 ?_
  refine call_M_isBeam C (pc := 2) hS (c_M_isBeam _ _ M S hR hO _ (by omega)) k_801 (by decide) (Nat.le_of_ble_eq_true rfl) rfl d_M_fall_2 (kkI (fun r2 N2 h2 => ?_))
  obtain ⟨rfl, rfl⟩ := h2
  refine r_ifneB C (pc := 5) (tgt := 11) d_M_fall_5 (by decide) (fun c5 => ?_) (fun c5 => ?_)
  · obtain ⟨b, rfl⟩ := Int.eq_ofNat_of_zero_le c5.1
    have hb : b < S.1 0 := by omega
    have hfo := (hO.2.2.2.1 b (by omega)).2
    refine r_ald0 C (pc := 11) d_M_fall_11 ?_
    refine gM_M_hasFallen C (pc := 12) hS k_644 d_M_fall_12 ?_
    refine r_ild1 C (pc := 15) d_M_fall_15 ?_
    refine M_baldN C (pc := 16) hS (b) (by omega) rfl (by decide) (by omega) (by decide) d_M_fall_16 ?_
    rw [(hR.2.2.2.1 b (by omega)).2]
    refine r_if_eq C (pc := 17) (tgt := 23) (by omega) d_M_fall_17 (by decide) (fun c17 => ?_) (fun c17 => ?_)
    · refine r_ald0 C (pc := 23) d_M_fall_23 ?_
      refine gM_M_hasFallen C (pc := 24) hS k_644 d_M_fall_24 ?_
      refine r_ild1 C (pc := 27) d_M_fall_27 ?_
      refine r_iconst C (pc := 28) d_M_fall_28 ?_
      refine M_bastN C (pc := 29) hS (b) (by omega) rfl (by decide) (by omega) (by decide) (by first | exact Or.inl rfl | exact Or.inr rfl | exact zb_01 _ | assumption)  d_M_fall_29 ?_
      refine r_ald0 C (pc := 30) d_M_fall_30 ?_
      refine call_M_layNow C (pc := 31) hS (c_M_layNow _ _ _ (uS S 2 b 5 1) (RM_fall hR hO (by omega)) (ok_fall hO hb)) k_810 (by decide) (Nat.le_of_ble_eq_true rfl) rfl d_M_fall_31 (kkV (fun N31 h31 => ?_))
      obtain ⟨b1, b2, b4, b3⟩ := h31
      have hR2 := RMk (RM_fall hR hO (by omega)) (ok_fall hO hb) b1
      refine r_ald0 C (pc := 34) d_M_fall_34 ?_
      refine call_M_downMany C (pc := 35) hS (c_M_downMany _ _ N31 (uS S 2 b 5 1) hR2 (ok_fall hO hb) (dA (uS S 2 b 5 1) (flS (uS S 2 b 5 1))) b2) k_870 (by decide) (Nat.le_of_ble_eq_true rfl) rfl d_M_fall_35 (kkI (fun r35 N35 h35 => ?_))
      obtain ⟨rfl, rfl⟩ := h35
      exact r_iret C (pc := 38) hQ (⟨by unfold fFall; rw [if_neg (by omega), Int.toNat_natCast, if_neg (by omega)]; rfl, by unfold gFall; rw [Int.toNat_natCast, if_pos (by omega)]; exact hR2⟩) d_M_fall_38
    · refine r_ldc C (pc := 20) (z := (-900003)) k_805 rfl d_M_fall_20 ?_
      exact r_iret C (pc := 22) hQ (⟨by unfold fFall; rw [if_neg (by omega), Int.toNat_natCast, if_pos (by omega)], by unfold gFall; rw [Int.toNat_natCast, if_neg (by omega)]; exact hR⟩) d_M_fall_22
  · refine r_ldc C (pc := 8) (z := (-900001)) k_780 rfl d_M_fall_8 ?_
    exact r_iret C (pc := 10) hQ (⟨by unfold fFall; rw [if_pos (by omega)], by unfold gFall; rw [if_neg (by omega)]; exact hR⟩) d_M_fall_10
theorem shL_0 {S : zS} {b : Nat} {t : Int} (ht : 0 ≤ t) (y : Int) : shL S b t (y - y) = t := by
  unfold shL
  rw [Int.sub_self, Int.zero_mul, show (0 : Int) / 10 = 0 from rfl, if_neg (by omega), Int.sub_zero]
set_option maxRecDepth 20000 in
theorem l_M_firstFalling_2 {G : zG} (C : zC G b_M_firstFalling "OldBeamsModel" (some .int) 3 4 102) (hS : G.1 = sM) (M : zM) (S : zS) (hR : RM S M) (hO : ok S) (ps dw : Nat → Bool) (hd : ∀ b, b < S.1 0 → M.1 22 b = zb (dw b = true)) (hj : ∀ b, b < S.1 0 → dw b = false → hJm S ps dw M b) (y : Int) (hy : 0 ≤ y ∧ y ≤ 500) (hQ : G.2.2.1 = zPi (fun r M2 => r = (if FN S ps dw (knS S y) < S.1 0 then (FN S ps dw (knS S y) : Int) else -900009) ∧ kO M M2)) : ∀ (n : Nat) (j : Nat) (N : zM), (j ≤ S.1 0) → (kO M N) → (∀ i, i < j → (fun b => !dw b && !hoB S ps dw b (knS S y b)) i = false) → (S.1 0 - j < n) → VJ G N 2 [some (.ref (zad G 0)), some (.int (iI y)), some (.int (iI (j : Int)))] [] := by
  intro n
  induction n with
  | zero =>
    intro j N hjn g1 hno hn
    exact absurd hn (by omega)
  | succ n ih =>
    intro j N hjn g1 hno hn
    have h12 := hO.n
    have hRN := RMk hR hO g1.k
    refine r_ild2 C (pc := 2) d_M_firstFalling_2 ?_
    refine r_ald0 C (pc := 3) d_M_firstFalling_3 ?_
    refine gM_M_beams C (pc := 4) hS k_638 d_M_firstFalling_4 ?_
    rw [hRN.1.1]
    refine r_icmp_ge C (pc := 7) (tgt := 43) (by omega) (by omega) d_M_firstFalling_7 (by decide) (fun c7 => ?_) (fun c7 => ?_)
    · refine r_ldc C (pc := 43) (z := (-900009)) k_796 rfl d_M_firstFalling_43 ?_
      exact r_iret C (pc := 45) hQ (⟨by rw [show FN S ps dw (knS S y) = S.1 0 from fsN_none (p := (fun b => !dw b && !hoB S ps dw b (knS S y b))) _ (fun i hi => hno i (by omega)), if_neg (by omega)], g1⟩) d_M_firstFalling_45
    · refine r_ald0 C (pc := 10) d_M_firstFalling_10 ?_
      refine gM_M_isDown C (pc := 11) hS k_660 d_M_firstFalling_11 ?_
      refine r_ild2 C (pc := 14) d_M_firstFalling_14 ?_
      refine M_baldN C (pc := 15) hS (j) (by omega) rfl (by decide) (by omega) (by decide) d_M_firstFalling_15 ?_
      rw [g1.1 22 j (by omega), hd j (by omega)]
      refine r_ifneB C (pc := 16) (tgt := 37) d_M_firstFalling_16 (by decide) (fun c16 => ?_) (fun c16 => ?_)
      · have hpf : (fun b => !dw b && !hoB S ps dw b (knS S y b)) j = false := by show (!dw j && _) = false; rw [c16]; rfl
        refine r_iinc2 C (pc := 37) rfl d_M_firstFalling_37 ?_
        refine r_goto C (pc := 40) (tgt := 2) d_M_firstFalling_40 (by decide) ?_
        exact ih (j + 1) _ (by omega) g1 (fun i hi => by
          rcases Nat.lt_or_ge i j with w | w
          · exact hno i w
          · rw [show i = j by omega]; exact hpf) (by omega)
      · have hdn : dw j = false := Bool.eq_false_iff.mpr c16
        refine r_ald0 C (pc := 19) d_M_firstFalling_19 ?_
        refine r_ild2 C (pc := 20) d_M_firstFalling_20 ?_
        refine r_ald0 C (pc := 21) d_M_firstFalling_21 ?_
        refine r_ild2 C (pc := 22) d_M_firstFalling_22 ?_
        refine r_ild1 C (pc := 23) d_M_firstFalling_23 ?_
        refine r_ild1 C (pc := 24) d_M_firstFalling_24 ?_
        refine r_iconst C (pc := 25) d_M_firstFalling_25 ?_
        refine call_M_shareOf C (pc := 26) hS (c_M_shareOf _ _ N S hRN hO j (by omega) y y (by omega) 0 (by decide)) k_960 (by decide) (Nat.le_of_ble_eq_true rfl) rfl d_M_firstFalling_26 (kkI (fun r26 N26 h26 => ?_))
        obtain ⟨rfl, a1⟩ := h26
        have hks := KS_le hO (b := j) (by omega) y false
        rw [show decide ((0 : Int) = 1) = false from rfl, shL_0 (by omega)]
        refine call_M_isHolding C (pc := 29) hS (c_M_isHolding _ _ N26 S (RMk hRN hO a1.k) hO j (by omega) dw ps ((g1.tr a1).j (hj j (by omega) hdn)) (KS S j y false : Int) (by omega)) k_902 (by decide) (Nat.le_of_ble_eq_true rfl) rfl d_M_firstFalling_29 (kkI (fun r29 N29 h29 => ?_))
        obtain ⟨rfl, rfl⟩ := h29
        refine r_ifneB C (pc := 32) (tgt := 37) d_M_firstFalling_32 (by decide) (fun c32 => ?_) (fun c32 => ?_)
        · have hpf : (fun b => !dw b && !hoB S ps dw b (knS S y b)) j = false := by show (!dw j && !hoB S ps dw j (knS S y j)) = false; rw [show hoB S ps dw j (knS S y j) = true from c32, Bool.not_true, Bool.and_false]
          refine r_iinc2 C (pc := 37) rfl d_M_firstFalling_37 ?_
          refine r_goto C (pc := 40) (tgt := 2) d_M_firstFalling_40 (by decide) ?_
          exact ih (j + 1) _ (by omega) (g1.tr a1) (fun i hi => by
            rcases Nat.lt_or_ge i j with w | w
            · exact hno i w
            · rw [show i = j by omega]; exact hpf) (by omega)
        · have hpt : (fun b => !dw b && !hoB S ps dw b (knS S y b)) j = true := by show (!dw j && !hoB S ps dw j (knS S y j)) = true; rw [hdn, show hoB S ps dw j (knS S y j) = false from Bool.eq_false_iff.mpr c32]; rfl
          refine r_ild2 C (pc := 35) d_M_firstFalling_35 ?_
          exact r_iret C (pc := 36) hQ (⟨by rw [show FN S ps dw (knS S y) = j from fsN_at (p := (fun b => !dw b && !hoB S ps dw b (knS S y b))) hpt hno _ (by omega), if_pos (by omega)], g1.tr a1⟩) d_M_firstFalling_36
set_option maxRecDepth 20000 in
theorem c_M_firstFalling (l : Launch) (E : zE) (M : zM) (S : zS) (hR : RM S M) (hO : ok S) (ps dw : Nat → Bool) (hd : ∀ b, b < S.1 0 → M.1 22 b = zb (dw b = true)) (hj : ∀ b, b < S.1 0 → dw b = false → hJm S ps dw M b) (y : Int) (hy : 0 ≤ y ∧ y ≤ 500) : zK l sM E y_M_firstFalling b_M_firstFalling 3 (some .int) 4 102 [.ref (E.2.2 0), .int (iI y)] M (zPi (fun r M2 => r = (if FN S ps dw (knS S y) < S.1 0 then (FN S ps dw (knS S y) : Int) else -900009) ∧ kO M M2)) := by
  refine zK.of "OldBeamsModel" rfl (by decide) (Nat.le_of_ble_eq_true rfl) ?_
  intro G hS hE hQ hL C
  subst hE
  subst hL
  show VJ G M 0 [some (.ref (G.2.1.2.2 0)), some (.int (iI y)), none] []
  refine r_iconst C (pc := 0) d_M_firstFalling_0 ?_
  refine r_ist2 C (pc := 1) rfl d_M_firstFalling_1 ?_
  exact l_M_firstFalling_2 C hS M S hR hO ps dw hd hj y hy hQ (S.1 0 + 1) 0 M (by omega) (kO.rf M) (fun i hi => absurd hi (Nat.not_lt_zero i)) (by omega)
theorem TM_at2 {S : zS} {ps : Nat → Bool} {sh : Nat → Int} {b m : Nat} (hm : m < 13) (h1 : ∀ j, j < m → (tS S ps sh b j).2 < S.1 0) (h2 : S.1 0 ≤ (tS S ps sh b m).2) : TM S ps sh b = m := fsN_at (p := fun k => decide (S.1 0 ≤ (tS S ps sh b k).2)) (decide_eq_true h2) (fun j hj => decide_eq_false (by have := h1 j hj; omega)) 13 hm
theorem tS_12 {S : zS} {ps : Nat → Bool} {sh : Nat → Int} {b m : Nat} (hO : ok S) (hb : dA S (flS S) b = false) (hbn : b < S.1 0) (h1 : ∀ j, j < m → (tS S ps sh b j).2 < S.1 0) : m ≤ 12 := by
  rcases Nat.lt_or_ge 12 m with q | q
  · have := tS_end (ps := ps) (sh := sh) hO hb hbn (fun j hj => h1 j (by omega))
    have := h1 12 q
    omega
  · exact q
theorem hT_up {S : zS} {N : zM} {fal ps : Nat → Bool} (h : hT S N fal ps) {i : Nat} : hT S (zI N 20 i 1) (fun j => fal j || decide (j = i)) ps := ⟨fun b hb => by
  rw [zI_at]
  by_cases e : b = i
  · rw [if_pos ⟨rfl, e⟩]
    exact zb_of1 (by show (fal b || decide (b = i)) = true; rw [decide_eq_true e, Bool.or_true])
  · rw [if_neg (fun z => e z.2), h.1 b hb]
    exact zb_congr (by show fal b = true ↔ (fal b || decide (b = i)) = true; rw [decide_eq_false e, Bool.or_false]), fun p hp => by
  rw [zI_o (by omega)]
  exact h.2 p hp⟩
theorem hT_k {S : zS} {N N2 : zM} {fal ps : Nat → Bool} (h : hT S N fal ps) (g : ∀ a i, a = 20 ∨ a = 21 → N2.1 a i = N.1 a i) : hT S N2 fal ps := ⟨fun b hb => (g 20 b (Or.inl rfl)).trans (h.1 b hb), fun p hp => (g 21 p (Or.inr rfl)).trans (h.2 p hp)⟩
set_option maxRecDepth 20000 in
theorem l_M_layFall_33 {G : zG} (C : zC G b_M_layFall "OldBeamsModel" none 4 5 124) (hS : G.1 = sM) (M : zM) (S : zS) (hR : RM S M) (hO : ok S) (b : Nat) (hb : b < S.1 0) (hdn : dA S (flS S) b = false) (y : Int) (hy : 0 ≤ y ∧ y ≤ 500) (hQ : G.2.2.1 = zPv (fun M2 => kM M M2 ∧ M2.1 0 42 = ((TM S (psS S) (knS S y) b) : Int) ∧ (∀ j, j < (TM S (psS S) (knS S y) b) → M2.1 35 j = ((tS S (psS S) (knS S y) b j).2 : Int)) ∧ ∀ i, i < S.1 0 → M2.1 22 i = zb (dA S (tS S (psS S) (knS S y) b (TM S (psS S) (knS S y) b)).1 i = true))) : ∀ (n : Nat) (m : Nat) (N : zM), (∀ j, j < m → (tS S (psS S) (knS S y) b j).2 < S.1 0) → (kM M N) → (hT S N (tS S (psS S) (knS S y) b m).1 (psS S)) → (N.1 0 42 = (m : Int)) → (∀ j, j < m → N.1 35 j = ((tS S (psS S) (knS S y) b j).2 : Int)) → (∀ i, i < S.1 0 → N.1 22 i = zb (dA S (tS S (psS S) (knS S y) b m).1 i = true)) → (13 - m < n) → VJ G N 33 [some (.ref (zad G 0)), some (.int (iI (b : Int))), some (.int (iI y)), some (.int (iI (if (tS S (psS S) (knS S y) b m).2 < S.1 0 then ((tS S (psS S) (knS S y) b m).2 : Int) else -900009)))] [] := by
  intro n
  induction n with
  | zero =>
    intro m N hm g1 g2 g3 g4 g5 hn
    exact absurd hn (by omega)
  | succ n ih =>
    intro m N hm g1 g2 g3 g4 g5 hn
    have h12 := hO.n
    have hm12 := tS_12 hO hdn hb hm
    have hRN := RMk hR hO g1
    by_cases hlt : (tS S (psS S) (knS S y) b m).2 < S.1 0
    · rw [if_pos hlt]
      refine r_ild3 C (pc := 33) d_M_layFall_33 ?_
      refine r_ldc C (pc := 34) (z := (-900009)) k_796 rfl d_M_layFall_34 ?_
      refine r_icmp_eq C (pc := 36) (tgt := 79) (by omega) (by omega) d_M_layFall_36 (by decide) (fun c36 => ?_) (fun c36 => ?_)
      · exact absurd c36 (by omega)
      · have hm11 : m < 12 := by
          rcases Nat.lt_or_ge m 12 with q | q
          · exact q
          · have := tS_end (ps := psS S) (sh := knS S y) hO hdn hb (fun j hj => hm j (by omega))
            have e : m = 12 := by omega
            rw [e] at hlt
            omega
        refine r_ald0 C (pc := 39) d_M_layFall_39 ?_
        refine gM_M_tryFallen C (pc := 40) hS k_658 d_M_layFall_40 ?_
        refine r_ild3 C (pc := 43) d_M_layFall_43 ?_
        refine r_iconst C (pc := 44) d_M_layFall_44 ?_
        refine M_bastN C (pc := 45) hS ((tS S (psS S) (knS S y) b m).2) (by omega) rfl (by decide) (by omega) (by decide) (by first | exact Or.inl rfl | exact Or.inr rfl | exact zb_01 _ | assumption)  d_M_layFall_45 ?_
        refine r_ald0 C (pc := 46) d_M_layFall_46 ?_
        refine gM_M_fallen C (pc := 47) hS k_677 d_M_layFall_47 ?_
        refine r_ald0 C (pc := 50) d_M_layFall_50 ?_
        refine gM_M_fallMany C (pc := 51) hS k_678 d_M_layFall_51 ?_
        rw [zI_o (by omega), g3]
        refine r_ild3 C (pc := 54) d_M_layFall_54 ?_
        refine M_iastN C (pc := 55) hS (m) (by omega) rfl (by decide) (by omega) (by decide)  d_M_layFall_55 ?_
        refine r_ald0 C (pc := 56) d_M_layFall_56 ?_
        refine r_dup C (pc := 57) rfl d_M_layFall_57 ?_
        refine gM_M_fallMany C (pc := 58) hS k_678 d_M_layFall_58 ?_
        rw [zI_o (by omega), zI_o (by omega), g3]
        refine r_iconst C (pc := 61) d_M_layFall_61 ?_
        refine r_iadd C (pc := 62) d_M_layFall_62 ?_
        refine pM_M_fallMany C (pc := 63) hS k_678 d_M_layFall_63 ?_
        have k66 : kM M (zI (zI (zI N 20 (tS S (psS S) (knS S y) b m).2 1) 35 m ((tS S (psS S) (knS S y) b m).2 : Int)) 0 42 ((m : Int) + 1)) := kM_I (kM_I (kM_I g1 (by omega)) (by omega)) (by omega)
        have t66 : hT S (zI (zI (zI N 20 (tS S (psS S) (knS S y) b m).2 1) 35 m ((tS S (psS S) (knS S y) b m).2 : Int)) 0 42 ((m : Int) + 1)) (tS S (psS S) (knS S y) b (m + 1)).1 (psS S) := hT_k (hT_up g2 (i := (tS S (psS S) (knS S y) b m).2)) (fun a i q => by rw [zI_o (by omega), zI_o (by omega)])
        refine r_ald0 C (pc := 66) d_M_layFall_66 ?_
        refine call_M_layTried C (pc := 67) hS (c_M_layTried _ _ _ S (RMk hR hO k66) hO _ _ t66) k_818 (by decide) (Nat.le_of_ble_eq_true rfl) rfl d_M_layFall_67 (kkV (fun N67 h67 => ?_))
        obtain ⟨u1, u2, u4, u3⟩ := h67
        have k67 := k66.tr u1.k
        refine r_ald0 C (pc := 70) d_M_layFall_70 ?_
        refine r_ild2 C (pc := 71) d_M_layFall_71 ?_
        refine call_M_firstFalling C (pc := 72) hS (c_M_firstFalling _ _ N67 S (RMk hR hO k67) hO (psS S) (dA S (tS S (psS S) (knS S y) b (m + 1)).1) u2 u3 y hy) k_1002 (by decide) (Nat.le_of_ble_eq_true rfl) rfl d_M_layFall_72 (kkI (fun r72 N72 h72 => ?_))
        obtain ⟨rfl, a1⟩ := h72
        refine r_ist3 C (pc := 75) rfl d_M_layFall_75 ?_
        refine r_goto C (pc := 76) (tgt := 33) d_M_layFall_76 (by decide) ?_
        refine ih (m + 1) _ (fun j hj => ?_) (k67.tr a1.k) (hT_k (u1.t t66) (fun a i q => a1.1 a i (by omega))) ?_ (fun j hj => ?_) (fun i hi => ?_) (by omega)
        · by_cases e : j = m
          · rw [e]; exact hlt
          · exact hm j (by omega)
        · rw [a1.1 0 42 (by omega), u1 0 42 (by decide) (by decide), zI_same]; rfl
        · rw [a1.1 35 j (by omega), u1 35 j (by decide) (by decide), zI_o (by omega)]
          by_cases e : j = m
          · rw [e, zI_same]
          · rw [zI_o (by omega), zI_o (by omega)]; exact g4 j (by omega)
        · rw [a1.1 22 i (by omega)]; exact u2 i hi
    · rw [if_neg hlt]
      refine r_ild3 C (pc := 33) d_M_layFall_33 ?_
      refine r_ldc C (pc := 34) (z := (-900009)) k_796 rfl d_M_layFall_34 ?_
      refine r_icmp_eq C (pc := 36) (tgt := 79) (by omega) (by omega) d_M_layFall_36 (by decide) (fun c36 => ?_) (fun c36 => ?_)
      · exact r_vret C (pc := 79) hQ (⟨g1, by rw [TM_at2 (by omega) hm (by omega)]; exact g3, by rw [TM_at2 (by omega) hm (by omega)]; exact g4, by rw [TM_at2 (by omega) hm (by omega)]; exact g5⟩) d_M_layFall_79
      · exact absurd rfl c36
set_option maxRecDepth 20000 in
theorem c_M_layFall (l : Launch) (E : zE) (M : zM) (S : zS) (hR : RM S M) (hO : ok S) (b : Nat) (hb : b < S.1 0) (hdn : dA S (flS S) b = false) (y : Int) (hy : 0 ≤ y ∧ y ≤ 500) : zK l sM E y_M_layFall b_M_layFall 4 none 5 124 [.ref (E.2.2 0), .int (iI (b : Int)), .int (iI y)] M (zPv (fun M2 => kM M M2 ∧ M2.1 0 42 = ((TM S (psS S) (knS S y) b) : Int) ∧ (∀ j, j < (TM S (psS S) (knS S y) b) → M2.1 35 j = ((tS S (psS S) (knS S y) b j).2 : Int)) ∧ ∀ i, i < S.1 0 → M2.1 22 i = zb (dA S (tS S (psS S) (knS S y) b (TM S (psS S) (knS S y) b)).1 i = true))) := by
  refine zK.of "OldBeamsModel" rfl (by decide) (Nat.le_of_ble_eq_true rfl) ?_
  intro G hS hE hQ hL C
  subst hE
  subst hL
  show VJ G M 0 [some (.ref (G.2.1.2.2 0)), some (.int (iI (b : Int))), some (.int (iI y)), none] []
  have h12 := hO.n
  refine r_ald0 C (pc := 0) d_M_layFall_0 ?_
  refine call_M_tryNow C (pc := 1) hS (c_M_tryNow _ _ M S hR hO) k_814 (by decide) (Nat.le_of_ble_eq_true rfl) rfl d_M_layFall_1 (kkV (fun N1 h1 => ?_))
  obtain ⟨v1, v2⟩ := h1
  have k1 : kM M N1 := fun a i q => v1 a i (by omega) (by omega)
  refine r_ald0 C (pc := 4) d_M_layFall_4 ?_
  refine gM_M_tryFallen C (pc := 5) hS k_658 d_M_layFall_5 ?_
  refine r_ild1 C (pc := 8) d_M_layFall_8 ?_
  refine r_iconst C (pc := 9) d_M_layFall_9 ?_
  refine M_bastN C (pc := 10) hS (b) (by omega) rfl (by decide) (by omega) (by decide) (by first | exact Or.inl rfl | exact Or.inr rfl | exact zb_01 _ | assumption)  d_M_layFall_10 ?_
  refine r_ald0 C (pc := 11) d_M_layFall_11 ?_
  refine gM_M_fallen C (pc := 12) hS k_677 d_M_layFall_12 ?_
  refine r_iconst C (pc := 15) d_M_layFall_15 ?_
  refine r_ild1 C (pc := 16) d_M_layFall_16 ?_
  refine M_iastN C (pc := 17) hS (0) (by omega) rfl (by decide) (by omega) (by decide)  d_M_layFall_17 ?_
  refine r_ald0 C (pc := 18) d_M_layFall_18 ?_
  refine r_iconst C (pc := 19) d_M_layFall_19 ?_
  refine pM_M_fallMany C (pc := 20) hS k_678 d_M_layFall_20 ?_
  have k24 : kM M (zI (zI (zI N1 20 b 1) 35 0 (b : Int)) 0 42 1) := kM_I (kM_I (kM_I k1 (by omega)) (by omega)) (by omega)
  have t24 : hT S (zI (zI (zI N1 20 b 1) 35 0 (b : Int)) 0 42 1) (tS S (psS S) (knS S y) b 1).1 (psS S) := hT_k (hT_up v2 (i := b)) (fun a i q => by rw [zI_o (by omega), zI_o (by omega)])
  refine r_ald0 C (pc := 23) d_M_layFall_23 ?_
  refine call_M_layTried C (pc := 24) hS (c_M_layTried _ _ _ S (RMk hR hO k24) hO _ _ t24) k_818 (by decide) (Nat.le_of_ble_eq_true rfl) rfl d_M_layFall_24 (kkV (fun N24 h24 => ?_))
  obtain ⟨u1, u2, u4, u3⟩ := h24
  have k25 := k24.tr u1.k
  refine r_ald0 C (pc := 27) d_M_layFall_27 ?_
  refine r_ild2 C (pc := 28) d_M_layFall_28 ?_
  refine call_M_firstFalling C (pc := 29) hS (c_M_firstFalling _ _ N24 S (RMk hR hO k25) hO (psS S) (dA S (tS S (psS S) (knS S y) b 1).1) u2 u3 y hy) k_1002 (by decide) (Nat.le_of_ble_eq_true rfl) rfl d_M_layFall_29 (kkI (fun r29 N29 h29 => ?_))
  obtain ⟨rfl, a1⟩ := h29
  refine r_ist3 C (pc := 32) rfl d_M_layFall_32 ?_
  refine l_M_layFall_33 C hS M S hR hO b hb hdn y hy hQ 14 1 _ (fun j hj => ?_) (k25.tr a1.k) (hT_k (u1.t t24) (fun a i q => a1.1 a i (by omega))) ?_ (fun j hj => ?_) (fun i hi => ?_) (by omega)
  · rw [show j = 0 by omega]; exact hb
  · rw [a1.1 0 42 (by omega), u1 0 42 (by decide) (by decide), zI_same]; rfl
  · rw [a1.1 35 j (by omega), u1 35 j (by decide) (by decide), zI_o (by omega), show j = 0 by omega, zI_same]; rfl
  · rw [a1.1 22 i (by omega)]; exact u2 i hi
set_option maxRecDepth 20000 in
theorem c_M_chain (l : Launch) (E : zE) (M : zM) (S : zS) (hR : RM S M) (hO : ok S) (b y : Int) (hb : -2147483648 ≤ b ∧ b < 2147483648) (hy : -2147483648 ≤ y ∧ y < 2147483648) : zK l sM E y_M_chain b_M_chain 4 (some .int) 6 147 [.ref (E.2.2 0), .int (iI b), .int (iI y)] M (zPi (fun r M2 => r = fChain S b y ∧ RM S M2)) := by
  refine zK.of "OldBeamsModel" rfl (by decide) (Nat.le_of_ble_eq_true rfl) ?_
  intro G hS hE hQ hL C
  subst hE
  subst hL
  show VJ G M 0 [some (.ref (G.2.1.2.2 0)), some (.int (iI b)), some (.int (iI y)), none] []
  have h12 := hO.n
  have hbn : M.1 0 2 = (S.1 0 : Int) := hR.1.1
  refine r_ald0 C (pc := 0) d_M_chain_0 ?_
  refine r_ild1 C (pc := 1) d_M_chain_1 ?_
  refine r_ild2 C (pc := 2) d_M_chain_2 ?_
  refine call_M_isYear C (pc := 3) hS (c_M_isYear _ _ _ _ (by omega)) k_791 (by decide) (Nat.le_of_ble_eq_true rfl) rfl d_M_chain_3 (kkI (fun r3 N3 h3 => ?_))
  obtain ⟨rfl, rfl⟩ := h3
  refine call_M_mayTell C (pc := 6) hS (c_M_mayTell _ _ M S hR hO b _ (by omega) (by first | exact zb_01 _ | decide)) k_878 (by decide) (Nat.le_of_ble_eq_true rfl) rfl d_M_chain_6 (kkI (fun r6 N6 h6 => ?_))
  obtain ⟨rfl, b1, bb⟩ := h6
  have er : rfS S b (zb (0 ≤ y ∧ y ≤ 500) = 1) = rfS S b (0 ≤ y ∧ y ≤ 500) := rfS_congr (zb_1 _)
  rw [er] at bb ⊢
  have hrr := rfS_rng S b (0 ≤ y ∧ y ≤ 500)
  refine r_ist3 C (pc := 9) rfl d_M_chain_9 ?_
  refine r_ild3 C (pc := 10) d_M_chain_10 ?_
  refine r_if_ge C (pc := 11) (tgt := 16) (by omega) d_M_chain_11 (by decide) (fun c11 => ?_) (fun c11 => ?_)
  · have hR2 := RMk hR hO b1
    have cc : rfS S b (0 ≤ y ∧ y ≤ 500) = 0 := by omega
    obtain ⟨b2, b4, b3⟩ := bb cc
    obtain ⟨⟨hb0, hb1⟩, hin, hdn⟩ := rfS_0 cc
    obtain ⟨b, rfl⟩ := Int.eq_ofNat_of_zero_le hb0
    rw [Int.toNat_natCast] at hdn
    have hb : b < S.1 0 := by omega
    refine r_ald0 C (pc := 16) d_M_chain_16 ?_
    refine r_ild1 C (pc := 17) d_M_chain_17 ?_
    refine r_ild2 C (pc := 18) d_M_chain_18 ?_
    refine call_M_layFall C (pc := 19) hS (c_M_layFall _ _ N6 S hR2 hO b hb hdn y (by omega)) k_998 (by decide) (Nat.le_of_ble_eq_true rfl) rfl d_M_chain_19 (kkV (fun N19 h19 => ?_))
    obtain ⟨f1, f2, f3, f4⟩ := h19
    have hR3 := RMk hR2 hO f1
    refine r_ald0 C (pc := 22) d_M_chain_22 ?_
    refine call_M_downMany C (pc := 23) hS (c_M_downMany _ _ N19 S hR3 hO _ f4) k_870 (by decide) (Nat.le_of_ble_eq_true rfl) rfl d_M_chain_23 (kkI (fun r23 N23 h23 => ?_))
    obtain ⟨rfl, rfl⟩ := h23
    exact r_iret C (pc := 26) hQ (⟨by unfold fChain; rw [if_neg (by omega), Int.toNat_natCast], hR3⟩) d_M_chain_26
  · refine r_ild3 C (pc := 14) d_M_chain_14 ?_
    exact r_iret C (pc := 15) hQ (⟨by unfold fChain; rw [if_pos (by omega)], RMk hR hO b1⟩) d_M_chain_15
set_option maxRecDepth 20000 in
theorem c_M_chainAt (l : Launch) (E : zE) (M : zM) (S : zS) (hR : RM S M) (hO : ok S) (b y i : Int) (hb : -2147483648 ≤ b ∧ b < 2147483648) (hy : -2147483648 ≤ y ∧ y < 2147483648) (hi : -2147483648 ≤ i ∧ i < 2147483648) : zK l sM E y_M_chainAt b_M_chainAt 5 (some .int) 6 147 [.ref (E.2.2 0), .int (iI b), .int (iI y), .int (iI i)] M (zPi (fun r M2 => r = fChainAt S b y i ∧ RM S M2)) := by
  refine zK.of "OldBeamsModel" rfl (by decide) (Nat.le_of_ble_eq_true rfl) ?_
  intro G hS hE hQ hL C
  subst hE
  subst hL
  show VJ G M 0 [some (.ref (G.2.1.2.2 0)), some (.int (iI b)), some (.int (iI y)), some (.int (iI i)), none] []
  have h12 := hO.n
  have hbn : M.1 0 2 = (S.1 0 : Int) := hR.1.1
  refine r_ald0 C (pc := 0) d_M_chainAt_0 ?_
  refine r_ild1 C (pc := 1) d_M_chainAt_1 ?_
  refine r_ild2 C (pc := 2) d_M_chainAt_2 ?_
  refine call_M_isYear C (pc := 3) hS (c_M_isYear _ _ _ _ (by omega)) k_791 (by decide) (Nat.le_of_ble_eq_true rfl) rfl d_M_chainAt_3 (kkI (fun r3 N3 h3 => ?_))
  obtain ⟨rfl, rfl⟩ := h3
  refine call_M_mayTell C (pc := 6) hS (c_M_mayTell _ _ M S hR hO b _ (by omega) (by first | exact zb_01 _ | decide)) k_878 (by decide) (Nat.le_of_ble_eq_true rfl) rfl d_M_chainAt_6 (kkI (fun r6 N6 h6 => ?_))
  obtain ⟨rfl, b1, bb⟩ := h6
  have er : rfS S b (zb (0 ≤ y ∧ y ≤ 500) = 1) = rfS S b (0 ≤ y ∧ y ≤ 500) := rfS_congr (zb_1 _)
  rw [er] at bb ⊢
  have hrr := rfS_rng S b (0 ≤ y ∧ y ≤ 500)
  refine r_ist4 C (pc := 9) rfl d_M_chainAt_9 ?_
  refine r_ild4 C (pc := 11) d_M_chainAt_11 ?_
  refine r_if_ge C (pc := 13) (tgt := 19) (by omega) d_M_chainAt_13 (by decide) (fun c13 => ?_) (fun c13 => ?_)
  · have hR2 := RMk hR hO b1
    have cc : rfS S b (0 ≤ y ∧ y ≤ 500) = 0 := by omega
    obtain ⟨b2, b4, b3⟩ := bb cc
    obtain ⟨⟨hb0, hb1⟩, hin, hdn⟩ := rfS_0 cc
    obtain ⟨b, rfl⟩ := Int.eq_ofNat_of_zero_le hb0
    rw [Int.toNat_natCast] at hdn
    have hb : b < S.1 0 := by omega
    have hTM := TM_le (ps := psS S) (sh := knS S y) hO hdn hb
    refine r_ald0 C (pc := 19) d_M_chainAt_19 ?_
    refine r_ild1 C (pc := 20) d_M_chainAt_20 ?_
    refine r_ild2 C (pc := 21) d_M_chainAt_21 ?_
    refine call_M_layFall C (pc := 22) hS (c_M_layFall _ _ N6 S hR2 hO b hb hdn y (by omega)) k_998 (by decide) (Nat.le_of_ble_eq_true rfl) rfl d_M_chainAt_22 (kkV (fun N22 h22 => ?_))
    obtain ⟨f1, f2, f3, f4⟩ := h22
    have hR3 := RMk hR2 hO f1
    refine r_ild3 C (pc := 25) d_M_chainAt_25 ?_
    refine r_i2l C (pc := 26) (by omega) d_M_chainAt_26 ?_
    refine r_lconst C (pc := 27) (v := 0) rfl d_M_chainAt_27 ?_
    refine r_ald0 C (pc := 28) d_M_chainAt_28 ?_
    refine gM_M_fallMany C (pc := 29) hS k_678 d_M_chainAt_29 ?_
    rw [f2]
    refine r_iconst C (pc := 32) d_M_chainAt_32 ?_
    refine r_isub C (pc := 33) d_M_chainAt_33 ?_
    refine r_i2l C (pc := 34) (by omega) d_M_chainAt_34 ?_
    refine call_M_in C (pc := 35) hS (c_M_in _ _ _ _ (0) _ (by omega) (by omega) (by omega)) k_777 (by decide) (Nat.le_of_ble_eq_true rfl) rfl d_M_chainAt_35 (kkI (fun r35 N35 h35 => ?_))
    obtain ⟨rfl, rfl⟩ := h35
    refine r_ifeqB C (pc := 38) (tgt := 50) d_M_chainAt_38 (by decide) (fun c38 => ?_) (fun c38 => ?_)
    · refine r_ldc C (pc := 50) (z := (-900009)) k_796 rfl d_M_chainAt_50 ?_
      exact r_iret C (pc := 52) hQ (⟨by unfold fChainAt; rw [if_neg (by omega), Int.toNat_natCast]; first | rw [if_pos (by omega)] | rw [if_neg (by omega)], hR3⟩) d_M_chainAt_52
    · refine r_ald0 C (pc := 41) d_M_chainAt_41 ?_
      refine gM_M_fallen C (pc := 42) hS k_677 d_M_chainAt_42 ?_
      refine r_ild3 C (pc := 45) d_M_chainAt_45 ?_
      refine M_ialdN C (pc := 46) hS (i.toNat) (by omega) rfl (by decide) (by omega) (by decide) d_M_chainAt_46 ?_
      rw [f3 i.toNat (by omega)]
      refine r_goto C (pc := 47) (tgt := 52) d_M_chainAt_47 (by decide) ?_
      exact r_iret C (pc := 52) hQ (⟨by unfold fChainAt; rw [if_neg (by omega), Int.toNat_natCast]; first | rw [if_pos (by omega)] | rw [if_neg (by omega)], hR3⟩) d_M_chainAt_52
  · refine r_ild4 C (pc := 16) d_M_chainAt_16 ?_
    exact r_iret C (pc := 18) hQ (⟨by unfold fChainAt; rw [if_pos (by omega)], RMk hR hO b1⟩) d_M_chainAt_18
