theorem KS_lo (S : zS) (b : Nat) (y : Int) : KS S b y false = leastN (OD S b y) := by
  unfold KS
  rw [if_neg (by decide)]
theorem KS_hi (S : zS) (b : Nat) (y : Int) : KS S b y true = mostN (OD S b y) 11 := by
  unfold KS
  rw [if_pos rfl]
set_option maxRecDepth 20000 in
theorem l_M_shareOf_49 {G : zG} (C : zC G b_M_shareOf "OldBeamsModel" (some .int) 7 3 76) (hS : G.1 = sM) (M : zM) (S : zS) (hR : RM S M) (hO : ok S) (b : Nat) (hb : b < S.1 0) (y l9 : Int) (hy : 0 ≤ y ∧ y ≤ l9 ∧ l9 ≤ 500) (z : Int) (hz : z = 0 ∨ z = 1) (hQ : G.2.2.1 = zPi (fun r M2 => r = shL S b (KS S b y (decide (z = 1)) : Int) (l9 - y) ∧ kO M M2)) : ∀ (t : Nat) (N : zM), (t ≤ 10) → (t = KS S b y (decide (z = 1))) → (kO M N) → VJ G N 49 [some (.ref (zad G 0)), some (.int (iI (b : Int))), some (.int (iI y)), some (.int (iI l9)), some (.int (iI z)), some (.int (iI (t : Int))), none] [] := by
  intro t N ht hk g1
  have h12 := hO.n
  have hRN := RMk hR hO g1.k
  obtain ⟨k0, -⟩ := hO.2.2.1 b hb
  obtain ⟨⟨e0, -⟩, -⟩ := hRN.2.2.1 b hb
  have hw0 := (hO.2.2.2.1 b (by omega)).1
  have hwr := (hRN.2.2.2.1 b (by omega)).1
  have hko := hO.2.1 (S.2 2 b 0).toNat (by omega)
  have hkr := hRN.2.1 (S.2 2 b 0).toNat (by omega)
  have hro : 0 ≤ S.2 1 (S.2 2 b 0).toNat (1 + (S.2 2 b 4).toNat) ∧ S.2 1 (S.2 2 b 0).toNat (1 + (S.2 2 b 4).toNat) ≤ 10 := by
    rcases hw0 with q | q
    · rw [q]; exact hko.2.1
    · rw [q]; exact hko.2.2
  have hrr : N.1 2 (2 * (S.2 2 b 0).toNat + (S.2 2 b 4).toNat) = S.2 1 (S.2 2 b 0).toNat (1 + (S.2 2 b 4).toNat) := by
    rcases hw0 with q | q
    · rw [q]; exact hkr.2.1
    · rw [q]; exact hkr.2.2
  have hm0 : 0 ≤ (l9 - y) * S.2 1 (S.2 2 b 0).toNat (1 + (S.2 2 b 4).toNat) := Int.mul_nonneg (by omega) hro.1
  have hm1 : (l9 - y) * S.2 1 (S.2 2 b 0).toNat (1 + (S.2 2 b 4).toNat) ≤ 500 * 10 := Int.mul_le_mul (by omega) hro.2 hro.1 (by omega)
  refine r_ild3 C (pc := 49) d_M_shareOf_49 ?_
  refine r_ild2 C (pc := 50) d_M_shareOf_50 ?_
  refine r_isub C (pc := 51) d_M_shareOf_51 ?_
  refine r_ald0 C (pc := 52) d_M_shareOf_52 ?_
  refine gM_M_rot C (pc := 53) hS k_637 d_M_shareOf_53 ?_
  refine r_iconst C (pc := 56) d_M_shareOf_56 ?_
  refine r_ald0 C (pc := 57) d_M_shareOf_57 ?_
  refine gM_M_kind C (pc := 58) hS k_639 d_M_shareOf_58 ?_
  refine r_ild1 C (pc := 61) d_M_shareOf_61 ?_
  refine M_ialdN C (pc := 62) hS (b) (by omega) rfl (by decide) (by omega) (by decide) d_M_shareOf_62 ?_
  rw [e0]
  refine r_imul C (pc := 63) d_M_shareOf_63 ?_
  refine r_ald0 C (pc := 64) d_M_shareOf_64 ?_
  refine gM_M_isWet C (pc := 65) hS k_643 d_M_shareOf_65 ?_
  refine r_ild1 C (pc := 68) d_M_shareOf_68 ?_
  refine M_baldN C (pc := 69) hS (b) (by omega) rfl (by decide) (by omega) (by decide) d_M_shareOf_69 ?_
  rw [hwr]
  refine r_if_eq C (pc := 70) (tgt := 77) (by omega) d_M_shareOf_70 (by decide) (fun c70 => ?_) (fun c70 => ?_)
  · refine r_iconst C (pc := 77) d_M_shareOf_77 ?_
    refine r_iadd C (pc := 78) d_M_shareOf_78 ?_
    refine M_ialdN C (pc := 79) hS (2 * (S.2 2 b 0).toNat + (S.2 2 b 4).toNat) (by omega) rfl (by decide) (by omega) (by decide) d_M_shareOf_79 ?_
    rw [hrr]
    refine r_imul C (pc := 80) d_M_shareOf_80 ?_
    refine r_bipush C (pc := 81) (n := 10) rfl d_M_shareOf_81 ?_
    refine r_idiv C (pc := 83) (by omega) (by omega) d_M_shareOf_83 ?_
    refine r_ist6 C (pc := 84) rfl d_M_shareOf_84 ?_
    refine r_ild5 C (pc := 86) d_M_shareOf_86 ?_
    refine r_ild6 C (pc := 88) d_M_shareOf_88 ?_
    refine r_icmp_ge C (pc := 90) (tgt := 97) (by omega) (by omega) d_M_shareOf_90 (by decide) (fun c90 => ?_) (fun c90 => ?_)
    · refine r_ild5 C (pc := 97) d_M_shareOf_97 ?_
      refine r_ild6 C (pc := 99) d_M_shareOf_99 ?_
      refine r_isub C (pc := 101) d_M_shareOf_101 ?_
      exact r_iret C (pc := 102) hQ (⟨by unfold shL; rw [← hk]; first | rw [if_pos (by omega)] | rw [if_neg (by omega)], g1⟩) d_M_shareOf_102
    · refine r_iconst C (pc := 93) d_M_shareOf_93 ?_
      refine r_goto C (pc := 94) (tgt := 102) d_M_shareOf_94 (by decide) ?_
      exact r_iret C (pc := 102) hQ (⟨by unfold shL; rw [← hk]; first | rw [if_pos (by omega)] | rw [if_neg (by omega)], g1⟩) d_M_shareOf_102
  · refine r_iconst C (pc := 73) d_M_shareOf_73 ?_
    refine r_goto C (pc := 74) (tgt := 78) d_M_shareOf_74 (by decide) ?_
    refine r_iadd C (pc := 78) d_M_shareOf_78 ?_
    refine M_ialdN C (pc := 79) hS (2 * (S.2 2 b 0).toNat + (S.2 2 b 4).toNat) (by omega) rfl (by decide) (by omega) (by decide) d_M_shareOf_79 ?_
    rw [hrr]
    refine r_imul C (pc := 80) d_M_shareOf_80 ?_
    refine r_bipush C (pc := 81) (n := 10) rfl d_M_shareOf_81 ?_
    refine r_idiv C (pc := 83) (by omega) (by omega) d_M_shareOf_83 ?_
    refine r_ist6 C (pc := 84) rfl d_M_shareOf_84 ?_
    refine r_ild5 C (pc := 86) d_M_shareOf_86 ?_
    refine r_ild6 C (pc := 88) d_M_shareOf_88 ?_
    refine r_icmp_ge C (pc := 90) (tgt := 97) (by omega) (by omega) d_M_shareOf_90 (by decide) (fun c90 => ?_) (fun c90 => ?_)
    · refine r_ild5 C (pc := 97) d_M_shareOf_97 ?_
      refine r_ild6 C (pc := 99) d_M_shareOf_99 ?_
      refine r_isub C (pc := 101) d_M_shareOf_101 ?_
      exact r_iret C (pc := 102) hQ (⟨by unfold shL; rw [← hk]; first | rw [if_pos (by omega)] | rw [if_neg (by omega)], g1⟩) d_M_shareOf_102
    · refine r_iconst C (pc := 93) d_M_shareOf_93 ?_
      refine r_goto C (pc := 94) (tgt := 102) d_M_shareOf_94 (by decide) ?_
      exact r_iret C (pc := 102) hQ (⟨by unfold shL; rw [← hk]; first | rw [if_pos (by omega)] | rw [if_neg (by omega)], g1⟩) d_M_shareOf_102
set_option maxRecDepth 20000 in
theorem l_M_shareOf_19z0 {G : zG} (C : zC G b_M_shareOf "OldBeamsModel" (some .int) 7 3 76) (hS : G.1 = sM) (M : zM) (S : zS) (hR : RM S M) (hO : ok S) (b : Nat) (hb : b < S.1 0) (y l9 : Int) (hy : 0 ≤ y ∧ y ≤ l9 ∧ l9 ≤ 500) (hz : (0 : Int) = 0 ∨ (0 : Int) = 1) (hQ : G.2.2.1 = zPi (fun r M2 => r = shL S b (KS S b y (decide ((0 : Int) = 1)) : Int) (l9 - y) ∧ kO M M2)) : ∀ (n : Nat) (j : Nat) (N : zM), (j ≤ 10) → (∀ i, i < j → OD S b y i = 0) → (kO M N) → (∀ t, t < 11 → N.2 33 t = lN (OD S b y t)) → (10 - j < n) → VJ G N 19 [some (.ref (zad G 0)), some (.int (iI (b : Int))), some (.int (iI y)), some (.int (iI l9)), some (.int (iI 0)), some (.int (iI (j : Int))), none] [] := by
  intro n
  induction n with
  | zero =>
    intro j N hj hno g1 g2 hn
    exact absurd hn (by omega)
  | succ n ih =>
    intro j N hj hno g1 g2 hn
    refine r_ald0 C (pc := 19) d_M_shareOf_19 ?_
    refine gM_M_odds C (pc := 20) hS k_672 d_M_shareOf_20 ?_
    refine r_ild5 C (pc := 23) d_M_shareOf_23 ?_
    refine M_laldN C (pc := 25) hS (j) (by omega) rfl (by decide) (by omega) (by decide) d_M_shareOf_25 ?_
    rw [g2 (j) (by omega)]
    refine r_lconst C (pc := 26) (v := 0) rfl d_M_shareOf_26 ?_
    refine r_lcmp_ne C (pc := 27) (tgt := 49) d_M_shareOf_27 d_M_shareOf_28 (by decide) (fun c27 => ?_) (fun c27 => ?_)
    · have hnz : OD S b y (j) ≠ 0 := fun q => c27 (by rw [q]; rfl)
      refine r_weak ?_ (l_M_shareOf_49 C hS M S hR hO b hb y l9 hy 0 hz hQ (j) N (by omega) (by rw [show decide ((0 : Int) = 1) = false from rfl, KS_lo]; exact (leastN_at (o := OD S b y) (by omega) hnz hno).symm) g1)
      exact ⟨Or.inr rfl, Or.inr rfl, Or.inr rfl, Or.inr rfl, Or.inr rfl, Or.inr (rfl), Or.inr rfl, trivial⟩
    · have hz0 : OD S b y (j) = 0 := (pk_lEQ (by have := OD_33 hO hb y (t := j) (by omega); omega) (by decide)).mp (c27.trans lN_0.symm)
      have hj2 : j < 10 := by
        rcases Nat.lt_or_ge j 10 with q | q
        · exact q
        · obtain ⟨t, h1, h2⟩ := OD_pos hO hb y
          exfalso
          apply h2
          by_cases e : t = j
          · rw [e]; exact hz0
          · exact hno t (by omega)
      refine r_ild5 C (pc := 31) d_M_shareOf_31 ?_
      refine r_ild4 C (pc := 33) d_M_shareOf_33 ?_
      refine r_if_eq C (pc := 35) (tgt := 42) (by omega) d_M_shareOf_35 (by decide) (fun c35 => ?_) (fun c35 => ?_)
      · refine r_iconst C (pc := 42) d_M_shareOf_42 ?_
        refine r_iadd C (pc := 43) d_M_shareOf_43 ?_
        refine r_ist5 C (pc := 44) rfl d_M_shareOf_44 ?_
        refine r_goto C (pc := 46) (tgt := 19) d_M_shareOf_46 (by decide) ?_
        refine r_weak ?_ (ih (j + 1) N (by omega) (fun i hi => by
          by_cases e : i = j
          · rw [e]; exact hz0
          · exact hno i (by omega)) g1 g2 (by omega))
        exact ⟨Or.inr rfl, Or.inr rfl, Or.inr rfl, Or.inr rfl, Or.inr rfl, Or.inr (rfl), Or.inr rfl, trivial⟩
      · exact absurd c35 (by decide)
set_option maxRecDepth 20000 in
theorem l_M_shareOf_19z1 {G : zG} (C : zC G b_M_shareOf "OldBeamsModel" (some .int) 7 3 76) (hS : G.1 = sM) (M : zM) (S : zS) (hR : RM S M) (hO : ok S) (b : Nat) (hb : b < S.1 0) (y l9 : Int) (hy : 0 ≤ y ∧ y ≤ l9 ∧ l9 ≤ 500) (hz : (1 : Int) = 0 ∨ (1 : Int) = 1) (hQ : G.2.2.1 = zPi (fun r M2 => r = shL S b (KS S b y (decide ((1 : Int) = 1)) : Int) (l9 - y) ∧ kO M M2)) : ∀ (n : Nat) (j : Nat) (N : zM), (j ≤ 10) → (∀ i, i < j → OD S b y (10 - i) = 0) → (kO M N) → (∀ t, t < 11 → N.2 33 t = lN (OD S b y t)) → (10 - j < n) → VJ G N 19 [some (.ref (zad G 0)), some (.int (iI (b : Int))), some (.int (iI y)), some (.int (iI l9)), some (.int (iI 1)), some (.int (iI (10 - (j : Int)))), none] [] := by
  intro n
  induction n with
  | zero =>
    intro j N hj hno g1 g2 hn
    exact absurd hn (by omega)
  | succ n ih =>
    intro j N hj hno g1 g2 hn
    refine r_ald0 C (pc := 19) d_M_shareOf_19 ?_
    refine gM_M_odds C (pc := 20) hS k_672 d_M_shareOf_20 ?_
    refine r_ild5 C (pc := 23) d_M_shareOf_23 ?_
    refine M_laldN C (pc := 25) hS (10 - j) (by omega) rfl (by decide) (by omega) (by decide) d_M_shareOf_25 ?_
    rw [g2 (10 - j) (by omega)]
    refine r_lconst C (pc := 26) (v := 0) rfl d_M_shareOf_26 ?_
    refine r_lcmp_ne C (pc := 27) (tgt := 49) d_M_shareOf_27 d_M_shareOf_28 (by decide) (fun c27 => ?_) (fun c27 => ?_)
    · have hnz : OD S b y (10 - j) ≠ 0 := fun q => c27 (by rw [q]; rfl)
      refine r_weak ?_ (l_M_shareOf_49 C hS M S hR hO b hb y l9 hy 1 hz hQ (10 - j) N (by omega) (by rw [show decide ((1 : Int) = 1) = true from rfl, KS_hi]; exact (mostN_at (o := OD S b y) hnz 11 (by omega) (fun i h1 h2 => by have := hno (10 - i) (by omega); rwa [show 10 - (10 - i) = i by omega] at this)).symm) g1)
      exact ⟨Or.inr rfl, Or.inr rfl, Or.inr rfl, Or.inr rfl, Or.inr rfl, Or.inr (by rw [show (10 : Int) - (j : Int) = ((10 - j : Nat) : Int) by omega]), Or.inr rfl, trivial⟩
    · have hz0 : OD S b y (10 - j) = 0 := (pk_lEQ (by have := OD_33 hO hb y (t := 10 - j) (by omega); omega) (by decide)).mp (c27.trans lN_0.symm)
      have hj2 : j < 10 := by
        rcases Nat.lt_or_ge j 10 with q | q
        · exact q
        · obtain ⟨t, h1, h2⟩ := OD_pos hO hb y
          exfalso
          apply h2
          by_cases e : t = 10 - j
          · rw [e]; exact hz0
          · have := hno (10 - t) (by omega)
            rwa [show 10 - (10 - t) = t by omega] at this
      refine r_ild5 C (pc := 31) d_M_shareOf_31 ?_
      refine r_ild4 C (pc := 33) d_M_shareOf_33 ?_
      refine r_if_eq C (pc := 35) (tgt := 42) (by omega) d_M_shareOf_35 (by decide) (fun c35 => ?_) (fun c35 => ?_)
      · exact absurd c35 (by decide)
      · refine r_iconst C (pc := 38) d_M_shareOf_38 ?_
        refine r_goto C (pc := 39) (tgt := 43) d_M_shareOf_39 (by decide) ?_
        refine r_iadd C (pc := 43) d_M_shareOf_43 ?_
        refine r_ist5 C (pc := 44) rfl d_M_shareOf_44 ?_
        refine r_goto C (pc := 46) (tgt := 19) d_M_shareOf_46 (by decide) ?_
        refine r_weak ?_ (ih (j + 1) N (by omega) (fun i hi => by
          by_cases e : i = j
          · rw [e]; exact hz0
          · exact hno i (by omega)) g1 g2 (by omega))
        exact ⟨Or.inr rfl, Or.inr rfl, Or.inr rfl, Or.inr rfl, Or.inr rfl, Or.inr (by rw [show (10 : Int) - ((j + 1 : Nat) : Int) = 10 - (j : Int) + -1 by omega]), Or.inr rfl, trivial⟩
set_option maxRecDepth 20000 in
theorem c_M_shareOf (l : Launch) (E : zE) (M : zM) (S : zS) (hR : RM S M) (hO : ok S) (b : Nat) (hb : b < S.1 0) (y l9 : Int) (hy : 0 ≤ y ∧ y ≤ l9 ∧ l9 ≤ 500) (z : Int) (hz : z = 0 ∨ z = 1) : zK l sM E y_M_shareOf b_M_shareOf 7 (some .int) 3 76 [.ref (E.2.2 0), .int (iI (b : Int)), .int (iI y), .int (iI l9), .int (iI z)] M (zPi (fun r M2 => r = shL S b (KS S b y (decide (z = 1)) : Int) (l9 - y) ∧ kO M M2)) := by
  refine zK.of "OldBeamsModel" rfl (by decide) (Nat.le_of_ble_eq_true rfl) ?_
  intro G hS hE hQ hL C
  subst hE
  subst hL
  show VJ G M 0 [some (.ref (G.2.1.2.2 0)), some (.int (iI (b : Int))), some (.int (iI y)), some (.int (iI l9)), some (.int (iI z)), none, none] []
  have h12 := hO.n
  refine r_ald0 C (pc := 0) d_M_shareOf_0 ?_
  refine r_ild1 C (pc := 1) d_M_shareOf_1 ?_
  refine r_ild2 C (pc := 2) d_M_shareOf_2 ?_
  refine call_M_layOdds C (pc := 3) hS (c_M_layOdds _ _ M S hR hO b (by omega) y (by omega)) k_934 (by decide) (Nat.le_of_ble_eq_true rfl) rfl d_M_shareOf_3 (kkV (fun N3 h3 => ?_))
  obtain ⟨a1, a2, a3⟩ := h3
  refine r_ild4 C (pc := 6) d_M_shareOf_6 ?_
  refine r_if_eq C (pc := 8) (tgt := 16) (by omega) d_M_shareOf_8 (by decide) (fun c8 => ?_) (fun c8 => ?_)
  · subst c8
    refine r_iconst C (pc := 16) d_M_shareOf_16 ?_
    refine r_ist5 C (pc := 17) rfl d_M_shareOf_17 ?_
    first | exact l_M_shareOf_19z0 C hS M S hR hO b hb y l9 hy hz hQ 11 0 N3 (by omega) (fun i hi => absurd hi (Nat.not_lt_zero i)) a1 a2 (by omega) | exact l_M_shareOf_19z1 C hS M S hR hO b hb y l9 hy hz hQ 11 0 N3 (by omega) (fun i hi => absurd hi (Nat.not_lt_zero i)) a1 a2 (by omega)
  · have ez : z = 1 := by omega
    subst ez
    refine r_bipush C (pc := 11) (n := 10) rfl d_M_shareOf_11 ?_
    refine r_goto C (pc := 13) (tgt := 17) d_M_shareOf_13 (by decide) ?_
    refine r_ist5 C (pc := 17) rfl d_M_shareOf_17 ?_
    first | exact l_M_shareOf_19z0 C hS M S hR hO b hb y l9 hy hz hQ 11 0 N3 (by omega) (fun i hi => absurd hi (Nat.not_lt_zero i)) a1 a2 (by omega) | exact l_M_shareOf_19z1 C hS M S hR hO b hb y l9 hy hz hQ 11 0 N3 (by omega) (fun i hi => absurd hi (Nat.not_lt_zero i)) a1 a2 (by omega)
set_option maxRecDepth 20000 in
theorem c_M_share (l : Launch) (E : zE) (M : zM) (S : zS) (hR : RM S M) (hO : ok S) (b y l9 z : Int) (hb : -2147483648 ≤ b ∧ b < 2147483648) (hy : -2147483648 ≤ y ∧ y < 2147483648) (hl9 : -2147483648 ≤ l9 ∧ l9 < 2147483648) (hz : z = 0 ∨ z = 1) : zK l sM E y_M_share b_M_share 5 (some .int) 4 102 [.ref (E.2.2 0), .int (iI b), .int (iI y), .int (iI l9), .int (iI z)] M (zPi (fun r M2 => r = fShare S b y l9 z ∧ RM S M2)) := by
  refine zK.of "OldBeamsModel" rfl (by decide) (Nat.le_of_ble_eq_true rfl) ?_
  intro G hS hE hQ hL C
  subst hE
  subst hL
  show VJ G M 0 [some (.ref (G.2.1.2.2 0)), some (.int (iI b)), some (.int (iI y)), some (.int (iI l9)), some (.int (iI z))] []
  have h12 := hO.n
  have hbn : M.1 0 2 = (S.1 0 : Int) := hR.1.1
  refine r_ald0 C (pc := 0) d_M_share_0 ?_
  refine r_ild1 C (pc := 1) d_M_share_1 ?_
  refine call_M_isBeam C (pc := 2) hS (c_M_isBeam _ _ M S hR hO _ (by omega)) k_801 (by decide) (Nat.le_of_ble_eq_true rfl) rfl d_M_share_2 (kkI (fun r2 N2 h2 => ?_))
  obtain ⟨rfl, rfl⟩ := h2
  refine r_ifneB C (pc := 5) (tgt := 11) d_M_share_5 (by decide) (fun c5 => ?_) (fun c5 => ?_)
  · obtain ⟨b, rfl⟩ := Int.eq_ofNat_of_zero_le c5.1
    have hb : b < S.1 0 := by omega
    refine r_ild2 C (pc := 11) d_M_share_11 ?_
    refine r_ild3 C (pc := 12) d_M_share_12 ?_
    refine call_M_areYears C (pc := 13) hS (c_M_areYears _ _ _ _ _ (by omega) (by omega)) k_957 (by decide) (Nat.le_of_ble_eq_true rfl) rfl d_M_share_13 (kkI (fun r13 N13 h13 => ?_))
    obtain ⟨rfl, rfl⟩ := h13
    refine r_ifeqB C (pc := 16) (tgt := 31) d_M_share_16 (by decide) (fun c16 => ?_) (fun c16 => ?_)
    · refine r_ldc C (pc := 31) (z := (-900002)) k_784 rfl d_M_share_31 ?_
      exact r_iret C (pc := 33) hQ (⟨by unfold fShare; rw [if_neg (by omega)]; first | rw [if_neg (by omega), Int.toNat_natCast] | rw [if_pos (by omega)], by first | exact RMk hR hO a1.k | exact hR⟩) d_M_share_33
    · refine r_ald0 C (pc := 19) d_M_share_19 ?_
      refine r_ild1 C (pc := 20) d_M_share_20 ?_
      refine r_ild2 C (pc := 21) d_M_share_21 ?_
      refine r_ild3 C (pc := 22) d_M_share_22 ?_
      refine r_ild4 C (pc := 23) d_M_share_23 ?_
      refine call_M_shareOf C (pc := 25) hS (c_M_shareOf _ _ M S hR hO b hb y l9 (by omega) z hz) k_960 (by decide) (Nat.le_of_ble_eq_true rfl) rfl d_M_share_25 (kkI (fun r25 N25 h25 => ?_))
      obtain ⟨rfl, a1⟩ := h25
      refine r_goto C (pc := 28) (tgt := 33) d_M_share_28 (by decide) ?_
      exact r_iret C (pc := 33) hQ (⟨by unfold fShare; rw [if_neg (by omega)]; first | rw [if_neg (by omega), Int.toNat_natCast] | rw [if_pos (by omega)], by first | exact RMk hR hO a1.k | exact hR⟩) d_M_share_33
  · refine r_ldc C (pc := 8) (z := (-900001)) k_780 rfl d_M_share_8 ?_
    exact r_iret C (pc := 10) hQ (⟨by unfold fShare; rw [if_pos (by omega)], hR⟩) d_M_share_10
def stG (S : zS) (ps dw : Nat → Bool) (y : Int) (most : Bool) (a : Int) : Bool := alN (fun b => !dw b) (S.1 0) && alN (fun b => hoB S ps dw b (shL S b (KS S b y most : Int) a)) (S.1 0)
theorem dcnt_0 (d : Nat → Bool) : ∀ n : Nat, dcnt d n = 0 ↔ alN (fun b => !d b) n = true
  | 0 => ⟨fun _ => rfl, fun _ => rfl⟩
  | n + 1 => by
    rw [dcnt_succ, show alN (fun b => !d b) (n + 1) = (alN (fun b => !d b) n && !d n) from rfl, Bool.and_eq_true, ← dcnt_0 d n]
    cases h : d n
    · simp
    · simp
set_option maxRecDepth 20000 in
theorem l_M_isStanding_17 {G : zG} (C : zC G b_M_isStanding "OldBeamsModel" (some .boolean) 6 4 102) (hS : G.1 = sM) (M : zM) (S : zS) (hR : RM S M) (hO : ok S) (ps dw : Nat → Bool) (hd : ∀ b, b < S.1 0 → M.1 22 b = zb (dw b = true)) (hj : ∀ b, b < S.1 0 → dw b = false → hJm S ps dw M b) (y l9 : Int) (hy : 0 ≤ y ∧ y ≤ l9 ∧ l9 ≤ 500) (z : Int) (hz : z = 0 ∨ z = 1) (hQ : G.2.2.1 = zPi (fun r M2 => r = zb (stG S ps dw y (decide (z = 1)) (l9 - y) = true) ∧ kO M M2)) : ∀ (n : Nat) (j : Nat) (N : zM), (j ≤ S.1 0) → (kO M N) → (alN (fun b => !dw b) (S.1 0) = true) → (S.1 0 - j < n) → VJ G N 17 [some (.ref (zad G 0)), some (.int (iI y)), some (.int (iI l9)), some (.int (iI z)), some (.int (iI (zb (alN (fun b => hoB S ps dw b (shL S b (KS S b y (decide (z = 1)) : Int) (l9 - y))) j = true)))), some (.int (iI (j : Int)))] [] := by
  intro n
  induction n with
  | zero =>
    intro j N hjn g1 hal hn
    exact absurd hn (by omega)
  | succ n ih =>
    intro j N hjn g1 hal hn
    have h12 := hO.n
    have hRN := RMk hR hO g1.k
    refine r_ild5 C (pc := 17) d_M_isStanding_17 ?_
    refine r_ald0 C (pc := 19) d_M_isStanding_19 ?_
    refine gM_M_beams C (pc := 20) hS k_638 d_M_isStanding_20 ?_
    rw [hRN.1.1]
    refine r_icmp_ge C (pc := 23) (tgt := 54) (by omega) (by omega) d_M_isStanding_23 (by decide) (fun c23 => ?_) (fun c23 => ?_)
    · refine r_ild4 C (pc := 54) d_M_isStanding_54 ?_
      exact r_zret C (pc := 56) hQ (by first | exact Or.inl rfl | exact Or.inr rfl | exact zb_01 _ | assumption) (⟨by unfold stG; rw [hal, Bool.true_and]; first | (rw [show j = S.1 0 by omega]) | exact (zb_neg c28).trans (zb_of0 (fun q => c28 ((alN_iff _ _).mpr (fun k hk => (alN_iff _ _).mp q k (by omega))))), g1⟩) d_M_isStanding_56
    · refine r_ild4 C (pc := 26) d_M_isStanding_26 ?_
      refine r_ifeqB C (pc := 28) (tgt := 54) d_M_isStanding_28 (by decide) (fun c28 => ?_) (fun c28 => ?_)
      · refine r_ild4 C (pc := 54) d_M_isStanding_54 ?_
        exact r_zret C (pc := 56) hQ (by first | exact Or.inl rfl | exact Or.inr rfl | exact zb_01 _ | assumption) (⟨by unfold stG; rw [hal, Bool.true_and]; first | (rw [show j = S.1 0 by omega]) | exact (zb_neg c28).trans (zb_of0 (fun q => c28 ((alN_iff _ _).mpr (fun k hk => (alN_iff _ _).mp q k (by omega))))), g1⟩) d_M_isStanding_56
      · refine r_ald0 C (pc := 31) d_M_isStanding_31 ?_
        refine r_ild5 C (pc := 32) d_M_isStanding_32 ?_
        refine r_ald0 C (pc := 34) d_M_isStanding_34 ?_
        refine r_ild5 C (pc := 35) d_M_isStanding_35 ?_
        refine r_ild1 C (pc := 37) d_M_isStanding_37 ?_
        refine r_ild2 C (pc := 38) d_M_isStanding_38 ?_
        refine r_ild3 C (pc := 39) d_M_isStanding_39 ?_
        refine call_M_shareOf C (pc := 40) hS (c_M_shareOf _ _ N S hRN hO j (by omega) y l9 hy z hz) k_960 (by decide) (Nat.le_of_ble_eq_true rfl) rfl d_M_isStanding_40 (kkI (fun r40 N40 h40 => ?_))
        obtain ⟨rfl, a1⟩ := h40
        have hks := KS_le hO (b := j) (by omega) y (decide (z = 1))
        refine call_M_isHolding C (pc := 43) hS (c_M_isHolding _ _ N40 S (RMk hRN hO a1.k) hO j (by omega) dw ps ((g1.tr a1).j (hj j (by omega) (by have := (alN_iff _ _).mp hal j (by omega); simpa using this))) _ (shL_rng hO (by omega) (by omega) (by omega))) k_902 (by decide) (Nat.le_of_ble_eq_true rfl) rfl d_M_isStanding_43 (kkI (fun r43 N43 h43 => ?_))
        obtain ⟨rfl, rfl⟩ := h43
        refine r_ist4 C (pc := 46) rfl d_M_isStanding_46 ?_
        refine r_iinc5 C (pc := 48) rfl d_M_isStanding_48 ?_
        refine r_goto C (pc := 51) (tgt := 17) d_M_isStanding_51 (by decide) ?_
        refine r_weak ?_ (ih (j + 1) _ (by omega) (g1.tr a1) hal (by omega))
        exact ⟨Or.inr rfl, Or.inr rfl, Or.inr rfl, Or.inr rfl, Or.inr (by rw [show alN (fun b => hoB S ps dw b (shL S b (KS S b y (decide (z = 1)) : Int) (l9 - y))) (j + 1) = (alN (fun b => hoB S ps dw b (shL S b (KS S b y (decide (z = 1)) : Int) (l9 - y))) j && (fun b => hoB S ps dw b (shL S b (KS S b y (decide (z = 1)) : Int) (l9 - y))) j) from rfl, c28, Bool.true_and]), Or.inr rfl, trivial⟩
set_option maxRecDepth 20000 in
theorem c_M_isStanding (l : Launch) (E : zE) (M : zM) (S : zS) (hR : RM S M) (hO : ok S) (ps dw : Nat → Bool) (hd : ∀ b, b < S.1 0 → M.1 22 b = zb (dw b = true)) (hj : ∀ b, b < S.1 0 → dw b = false → hJm S ps dw M b) (y l9 : Int) (hy : 0 ≤ y ∧ y ≤ l9 ∧ l9 ≤ 500) (z : Int) (hz : z = 0 ∨ z = 1) : zK l sM E y_M_isStanding b_M_isStanding 6 (some .boolean) 4 102 [.ref (E.2.2 0), .int (iI y), .int (iI l9), .int (iI z)] M (zPi (fun r M2 => r = zb (stG S ps dw y (decide (z = 1)) (l9 - y) = true) ∧ kO M M2)) := by
  refine zK.of "OldBeamsModel" rfl (by decide) (Nat.le_of_ble_eq_true rfl) ?_
  intro G hS hE hQ hL C
  subst hE
  subst hL
  show VJ G M 0 [some (.ref (G.2.1.2.2 0)), some (.int (iI y)), some (.int (iI l9)), some (.int (iI z)), none, none] []
  have h12 := hO.n
  have hdl := dcnt_le dw (S.1 0)
  have hd0 := dcnt_0 dw (S.1 0)
  refine r_ald0 C (pc := 0) d_M_isStanding_0 ?_
  refine call_M_downMany C (pc := 1) hS (c_M_downMany _ _ M S hR hO dw hd) k_870 (by decide) (Nat.le_of_ble_eq_true rfl) rfl d_M_isStanding_1 (kkI (fun r1 N1 h1 => ?_))
  obtain ⟨rfl, rfl⟩ := h1
  refine r_if_ne C (pc := 4) (tgt := 11) (by omega) d_M_isStanding_4 (by decide) (fun c4 => ?_) (fun c4 => ?_)
  · have hal : ¬ alN (fun b => !dw b) (S.1 0) = true := fun q => c4 (by rw [hd0.mpr q]; rfl)
    refine r_iconst C (pc := 11) d_M_isStanding_11 ?_
    refine r_ist4 C (pc := 12) rfl d_M_isStanding_12 ?_
    refine r_iconst C (pc := 14) d_M_isStanding_14 ?_
    refine r_ist5 C (pc := 15) rfl d_M_isStanding_15 ?_
    refine r_ild5 C (pc := 17) d_M_isStanding_17 ?_
    refine r_ald0 C (pc := 19) d_M_isStanding_19 ?_
    refine gM_M_beams C (pc := 20) hS k_638 d_M_isStanding_20 ?_
    rw [hR.1.1]
    refine r_icmp_ge C (pc := 23) (tgt := 54) (by omega) (by omega) d_M_isStanding_23 (by decide) (fun c23 => ?_) (fun c23 => ?_)
    · refine r_ild4 C (pc := 54) d_M_isStanding_54 ?_
      exact r_zret C (pc := 56) hQ (by first | exact Or.inl rfl | exact Or.inr rfl | exact zb_01 _ | assumption) (⟨zb_of0 (fun q => hal ((Bool.and_eq_true _ _).mp q).1), kO.rf M⟩) d_M_isStanding_56
    · refine r_ild4 C (pc := 26) d_M_isStanding_26 ?_
      refine r_if_eq C (pc := 28) (tgt := 54) (by omega) d_M_isStanding_28 (by decide) (fun c28 => ?_) (fun c28 => ?_)
      · refine r_ild4 C (pc := 54) d_M_isStanding_54 ?_
        exact r_zret C (pc := 56) hQ (by first | exact Or.inl rfl | exact Or.inr rfl | exact zb_01 _ | assumption) (⟨zb_of0 (fun q => hal ((Bool.and_eq_true _ _).mp q).1), kO.rf M⟩) d_M_isStanding_56
      · exact absurd c28 (by decide)
  · have hal := hd0.mp (by omega)
    refine r_iconst C (pc := 7) d_M_isStanding_7 ?_
    refine r_goto C (pc := 8) (tgt := 12) d_M_isStanding_8 (by decide) ?_
    refine r_ist4 C (pc := 12) rfl d_M_isStanding_12 ?_
    refine r_iconst C (pc := 14) d_M_isStanding_14 ?_
    refine r_ist5 C (pc := 15) rfl d_M_isStanding_15 ?_
    exact l_M_isStanding_17 C hS M S hR hO ps dw hd hj y l9 hy z hz hQ (S.1 0 + 1) 0 M (by omega) (kO.rf M) hal (by omega)
set_option maxRecDepth 20000 in
theorem c_M_stands (l : Launch) (E : zE) (M : zM) (S : zS) (hR : RM S M) (hO : ok S) (y l9 z : Int) (hy : -2147483648 ≤ y ∧ y < 2147483648) (hl9 : -2147483648 ≤ l9 ∧ l9 < 2147483648) (hz : z = 0 ∨ z = 1) : zK l sM E y_M_stands b_M_stands 4 (some .int) 5 127 [.ref (E.2.2 0), .int (iI y), .int (iI l9), .int (iI z)] M (zPi (fun r M2 => r = fStands S y l9 z ∧ RM S M2)) := by
  refine zK.of "OldBeamsModel" rfl (by decide) (Nat.le_of_ble_eq_true rfl) ?_
  intro G hS hE hQ hL C
  subst hE
  subst hL
  show VJ G M 0 [some (.ref (G.2.1.2.2 0)), some (.int (iI y)), some (.int (iI l9)), some (.int (iI z))] []
  have h12 := hO.n
  have hbn : M.1 0 2 = (S.1 0 : Int) := hR.1.1
  refine r_ild1 C (pc := 0) d_M_stands_0 ?_
  refine r_ild2 C (pc := 1) d_M_stands_1 ?_
  refine call_M_areYears C (pc := 2) hS (c_M_areYears _ _ _ _ _ (by omega) (by omega)) k_957 (by decide) (Nat.le_of_ble_eq_true rfl) rfl d_M_stands_2 (kkI (fun r2 N2 h2 => ?_))
  obtain ⟨rfl, rfl⟩ := h2
  refine r_ifneB C (pc := 5) (tgt := 11) d_M_stands_5 (by decide) (fun c5 => ?_) (fun c5 => ?_)
  · refine r_ald0 C (pc := 11) d_M_stands_11 ?_
    refine call_M_layNow C (pc := 12) hS (c_M_layNow _ _ M S hR hO) k_810 (by decide) (Nat.le_of_ble_eq_true rfl) rfl d_M_stands_12 (kkV (fun N12 h12 => ?_))
    obtain ⟨b1, b2, b4, b3⟩ := h12
    have hR2 := RMk hR hO b1
    refine r_ald0 C (pc := 15) d_M_stands_15 ?_
    refine r_ild1 C (pc := 16) d_M_stands_16 ?_
    refine r_ild2 C (pc := 17) d_M_stands_17 ?_
    refine r_ild3 C (pc := 18) d_M_stands_18 ?_
    refine call_M_isStanding C (pc := 19) hS (c_M_isStanding _ _ N12 S hR2 hO (psS S) (dA S (flS S)) b2 b3 y l9 (by omega) z hz) k_968 (by decide) (Nat.le_of_ble_eq_true rfl) rfl d_M_stands_19 (kkI (fun r19 N19 h19 => ?_))
    obtain ⟨rfl, a1⟩ := h19
    refine r_ifeqB C (pc := 22) (tgt := 29) d_M_stands_22 (by decide) (fun c22 => ?_) (fun c22 => ?_)
    · refine r_iconst C (pc := 29) d_M_stands_29 ?_
      exact r_iret C (pc := 30) hQ (⟨by unfold fStands; rw [if_neg (by omega)]; first | exact zb_of1 c22 | exact zb_of0 c22, RMk hR2 hO a1.k⟩) d_M_stands_30
    · refine r_iconst C (pc := 25) d_M_stands_25 ?_
      refine r_goto C (pc := 26) (tgt := 30) d_M_stands_26 (by decide) ?_
      exact r_iret C (pc := 30) hQ (⟨by unfold fStands; rw [if_neg (by omega)]; first | exact zb_of1 c22 | exact zb_of0 c22, RMk hR2 hO a1.k⟩) d_M_stands_30
  · refine r_ldc C (pc := 8) (z := (-900002)) k_784 rfl d_M_stands_8 ?_
    exact r_iret C (pc := 10) hQ (⟨by unfold fStands; rw [if_pos (by omega)], hR⟩) d_M_stands_10
set_option maxRecDepth 20000 in
theorem l_M_until_20 {G : zG} (C : zC G b_M_until "OldBeamsModel" (some .int) 5 5 127) (hS : G.1 = sM) (M : zM) (S : zS) (hR : RM S M) (hO : ok S) (y : Int) (hy : 0 ≤ y ∧ y ≤ 500) (z : Int) (hz : z = 0 ∨ z = 1) (N0 : zM) (hR2 : RM S N0) (b2 : ∀ b, b < S.1 0 → N0.1 22 b = zb (dA S (flS S) b = true)) (b3 : ∀ b, b < S.1 0 → dA S (flS S) b = false → hJm S (psS S) (dA S (flS S)) N0 b) (hQ : G.2.2.1 = zPi (fun r M2 => r = fUntil S y z ∧ RM S M2)) : ∀ (n : Nat) (j : Nat) (N : zM), (y + (j : Int) ≤ 501) → (∀ i, i < j → stB S y (decide (z = 1)) (i : Int) = true) → (kO N0 N) → (501 - j < n) → VJ G N 20 [some (.ref (zad G 0)), some (.int (iI y)), some (.int (iI z)), some (.int (iI (if j = 0 then -900009 else y + (j : Int) - 1))), some (.int (iI (y + (j : Int))))] [] := by
  intro n
  induction n with
  | zero =>
    intro j N hj2 hp g1 hn
    exact absurd hn (by omega)
  | succ n ih =>
    intro j N hj2 hp g1 hn
    have hRN := RMk hR2 hO g1.k
    refine r_ild4 C (pc := 20) d_M_until_20 ?_
    refine r_sipush C (pc := 22) (n := 500) rfl d_M_until_22 ?_
    refine r_icmp_gt C (pc := 25) (tgt := 48) (by omega) (by omega) d_M_until_25 (by decide) (fun c25 => ?_) (fun c25 => ?_)
    · refine r_ild3 C (pc := 48) d_M_until_48 ?_
      exact r_iret C (pc := 49) hQ (by
      have hu : utN S y (decide (z = 1)) = j := by
        unfold utN
        first
        | exact fsN_at (by show (!stB S y (decide (z = 1)) (j : Int)) = true; rw [show stB S y (decide (z = 1)) (j : Int) = false from Bool.eq_false_iff.mpr c36]; rfl) (fun i hi => by show (!stB S y (decide (z = 1)) (i : Int)) = false; rw [hp i hi]; rfl) _ (by omega)
        | (rw [show 501 - y.toNat = j by omega]; exact fsN_none j (fun i hi => by show (!stB S y (decide (z = 1)) (i : Int)) = false; rw [hp i hi]; rfl))
      exact ⟨by unfold fUntil; rw [if_neg (show ¬ ¬ (0 ≤ y ∧ y ≤ 500) by omega), hu], by first | exact RMk hRN hO a1.k | exact hRN⟩) d_M_until_49
    · refine r_ald0 C (pc := 28) d_M_until_28 ?_
      refine r_ild1 C (pc := 29) d_M_until_29 ?_
      refine r_ild4 C (pc := 30) d_M_until_30 ?_
      refine r_ild2 C (pc := 32) d_M_until_32 ?_
      refine call_M_isStanding C (pc := 33) hS (c_M_isStanding _ _ N S hRN hO (psS S) (dA S (flS S)) (fun b hb => (g1.1 22 b (by omega)).trans (b2 b hb)) (fun b hb hd => g1.j (b3 b hb hd)) y (y + (j : Int)) (by omega) z hz) k_968 (by decide) (Nat.le_of_ble_eq_true rfl) rfl d_M_until_33 (kkI (fun r33 N33 h33 => ?_))
      obtain ⟨rfl, a1⟩ := h33
      rw [show y + (j : Int) - y = (j : Int) by omega, show stG S (psS S) (dA S (flS S)) y (decide (z = 1)) (j : Int) = stB S y (decide (z = 1)) (j : Int) from rfl]
      refine r_ifeqB C (pc := 36) (tgt := 48) d_M_until_36 (by decide) (fun c36 => ?_) (fun c36 => ?_)
      · refine r_ild3 C (pc := 48) d_M_until_48 ?_
        exact r_iret C (pc := 49) hQ (by
      have hu : utN S y (decide (z = 1)) = j := by
        unfold utN
        first
        | exact fsN_at (by show (!stB S y (decide (z = 1)) (j : Int)) = true; rw [show stB S y (decide (z = 1)) (j : Int) = false from Bool.eq_false_iff.mpr c36]; rfl) (fun i hi => by show (!stB S y (decide (z = 1)) (i : Int)) = false; rw [hp i hi]; rfl) _ (by omega)
        | (rw [show 501 - y.toNat = j by omega]; exact fsN_none j (fun i hi => by show (!stB S y (decide (z = 1)) (i : Int)) = false; rw [hp i hi]; rfl))
      exact ⟨by unfold fUntil; rw [if_neg (show ¬ ¬ (0 ≤ y ∧ y ≤ 500) by omega), hu], by first | exact RMk hRN hO a1.k | exact hRN⟩) d_M_until_49
      · refine r_ild4 C (pc := 39) d_M_until_39 ?_
        refine r_ist3 C (pc := 41) rfl d_M_until_41 ?_
        refine r_iinc4 C (pc := 42) rfl d_M_until_42 ?_
        refine r_goto C (pc := 45) (tgt := 20) d_M_until_45 (by decide) ?_
        refine r_weak ?_ (ih (j + 1) _ (by omega) (fun i hi => by
          rcases Nat.lt_or_ge i j with w | w
          · exact hp i w
          · rw [show i = j by omega]; exact c36) (g1.tr a1) (by omega))
        exact ⟨Or.inr rfl, Or.inr rfl, Or.inr rfl, Or.inr (by rw [if_neg (by omega), show y + ((j + 1 : Nat) : Int) - 1 = y + (j : Int) by omega]), Or.inr (by rw [show y + ((j + 1 : Nat) : Int) = y + (j : Int) + 1 by omega]), trivial⟩
set_option maxRecDepth 20000 in
theorem c_M_until (l : Launch) (E : zE) (M : zM) (S : zS) (hR : RM S M) (hO : ok S) (y z : Int) (hy : -2147483648 ≤ y ∧ y < 2147483648) (hz : z = 0 ∨ z = 1) : zK l sM E y_M_until b_M_until 5 (some .int) 5 127 [.ref (E.2.2 0), .int (iI y), .int (iI z)] M (zPi (fun r M2 => r = fUntil S y z ∧ RM S M2)) := by
  refine zK.of "OldBeamsModel" rfl (by decide) (Nat.le_of_ble_eq_true rfl) ?_
  intro G hS hE hQ hL C
  subst hE
  subst hL
  show VJ G M 0 [some (.ref (G.2.1.2.2 0)), some (.int (iI y)), some (.int (iI z)), none, none] []
  have h12 := hO.n
  have hbn : M.1 0 2 = (S.1 0 : Int) := hR.1.1
  refine r_ild1 C (pc := 0) d_M_until_0 ?_
  refine call_M_isYear C (pc := 1) hS (c_M_isYear _ _ _ _ (by omega)) k_791 (by decide) (Nat.le_of_ble_eq_true rfl) rfl d_M_until_1 (kkI (fun r1 N1 h1 => ?_))
  obtain ⟨rfl, rfl⟩ := h1
  refine r_ifneB C (pc := 4) (tgt := 10) d_M_until_4 (by decide) (fun c4 => ?_) (fun c4 => ?_)
  · refine r_ald0 C (pc := 10) d_M_until_10 ?_
    refine call_M_layNow C (pc := 11) hS (c_M_layNow _ _ M S hR hO) k_810 (by decide) (Nat.le_of_ble_eq_true rfl) rfl d_M_until_11 (kkV (fun N11 h11 => ?_))
    obtain ⟨b1, b2, b4, b3⟩ := h11
    have hR2 := RMk hR hO b1
    refine r_ldc C (pc := 14) (z := (-900009)) k_796 rfl d_M_until_14 ?_
    refine r_ist3 C (pc := 16) rfl d_M_until_16 ?_
    refine r_ild1 C (pc := 17) d_M_until_17 ?_
    refine r_ist4 C (pc := 18) rfl d_M_until_18 ?_
    refine r_weak ?_ (l_M_until_20 C hS M S hR hO y (by omega) z hz N11 hR2 b2 b3 hQ 502 0 N11 (by omega) (fun i hi => absurd hi (Nat.not_lt_zero i)) (kO.rf _) (by omega))
    exact ⟨Or.inr rfl, Or.inr rfl, Or.inr rfl, Or.inr rfl, Or.inr (by rw [show y + ((0 : Nat) : Int) = y by omega]), trivial⟩
  · refine r_ldc C (pc := 7) (z := (-900002)) k_784 rfl d_M_until_7 ?_
    exact r_iret C (pc := 9) hQ (⟨by unfold fUntil; rw [if_pos (by omega)], hR⟩) d_M_until_9
