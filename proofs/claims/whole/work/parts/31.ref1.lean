set_option maxRecDepth 20000 in
theorem c_M_in (l : Launch) (E : zE) (M : zM) (v a b : Int) (hv : -4611686018427387904 ≤ v ∧ v ≤ 4611686018427387904) (ha : -4611686018427387904 ≤ a ∧ a ≤ 4611686018427387904) (hb : -4611686018427387904 ≤ b ∧ b ≤ 4611686018427387904) : zK l sM E y_M_in b_M_in 6 (some .boolean) 0 0 [.long (lI v), .long (lI a), .long (lI b)] M (zPi (fun r M2 => r = zb (a ≤ v ∧ v ≤ b) ∧ M = M2)) := by
  refine zK.of "OldBeamsModel" rfl (by decide) (Nat.le_of_ble_eq_true rfl) ?_
  intro G hS hE hQ hL C
  subst hE
  subst hL
  show VJ G M 0 [some (.long (lI v)), none, some (.long (lI a)), none, some (.long (lI b)), none] []
  have e1 := lI_lt (a := v) (b := a) (by omega) (by omega)
  have e2 := lI_lt (a := b) (b := v) (by omega) (by omega)
  refine r_lld0 C (pc := 0) d_M_in_0 ?_
  refine r_lld2 C (pc := 1) d_M_in_1 ?_
  refine r_lcmp_lt C (pc := 2) (tgt := 17) d_M_in_2 d_M_in_3 (by decide) (fun c2 => ?_) (fun c2 => ?_)
  · rw [e1] at c2
    refine r_iconst C (pc := 17) d_M_in_17 ?_
    exact r_zret C (pc := 18) hQ (by first | exact Or.inl rfl | exact Or.inr rfl | exact zb_01 _ | assumption) (⟨by first | rw [zb_pos (by omega)] | rw [zb_neg (by omega)], rfl⟩) d_M_in_18
  · rw [e1] at c2
    refine r_lld0 C (pc := 6) d_M_in_6 ?_
    refine r_lld4 C (pc := 7) d_M_in_7 ?_
    refine r_lcmp_gt C (pc := 9) (tgt := 17) d_M_in_9 d_M_in_10 (by decide) (fun c9 => ?_) (fun c9 => ?_)
    · rw [e2] at c9
      refine r_iconst C (pc := 17) d_M_in_17 ?_
      exact r_zret C (pc := 18) hQ (by first | exact Or.inl rfl | exact Or.inr rfl | exact zb_01 _ | assumption) (⟨by first | rw [zb_pos (by omega)] | rw [zb_neg (by omega)], rfl⟩) d_M_in_18
    · rw [e2] at c9
      refine r_iconst C (pc := 13) d_M_in_13 ?_
      refine r_goto C (pc := 14) (tgt := 18) d_M_in_14 (by decide) ?_
      exact r_zret C (pc := 18) hQ (by first | exact Or.inl rfl | exact Or.inr rfl | exact zb_01 _ | assumption) (⟨by first | rw [zb_pos (by omega)] | rw [zb_neg (by omega)], rfl⟩) d_M_in_18
set_option maxRecDepth 20000 in
theorem c_M_isYear (l : Launch) (E : zE) (M : zM) (v : Int) (hv : -2147483648 ≤ v ∧ v < 2147483648) : zK l sM E y_M_isYear b_M_isYear 1 (some .boolean) 1 25 [.int (iI v)] M (zPi (fun r M2 => r = zb (0 ≤ v ∧ v ≤ 500) ∧ M = M2)) := by
  refine zK.of "OldBeamsModel" rfl (by decide) (Nat.le_of_ble_eq_true rfl) ?_
  intro G hS hE hQ hL C
  subst hE
  subst hL
  show VJ G M 0 [some (.int (iI v))] []
  refine r_ild0 C (pc := 0) d_M_isYear_0 ?_
  refine r_i2l C (pc := 1) (by omega) d_M_isYear_1 ?_
  refine r_lconst C (pc := 2) (v := 0) rfl d_M_isYear_2 ?_
  refine r_ldc2 C (pc := 3) k_794 d_M_isYear_3 ?_
  refine call_M_in C (pc := 6) hS (c_M_in _ _ _ _ (0) (500) (by omega) (by omega) (by omega)) k_777 (by decide) (Nat.le_of_ble_eq_true rfl) rfl d_M_isYear_6 (kkI (fun r6 N6 h6 => ?_))
  obtain ⟨rfl, rfl⟩ := h6
  exact r_zret C (pc := 9) hQ (by first | exact Or.inl rfl | exact Or.inr rfl | exact zb_01 _ | assumption) (⟨rfl, rfl⟩) d_M_isYear_9
set_option maxRecDepth 20000 in
theorem c_M_areYears (l : Launch) (E : zE) (M : zM) (v w : Int) (hv : -2147483648 ≤ v ∧ v < 2147483648) (hw : -2147483648 ≤ w ∧ w < 2147483648) : zK l sM E y_M_areYears b_M_areYears 2 (some .boolean) 2 45 [.int (iI v), .int (iI w)] M (zPi (fun r M2 => r = zb (0 ≤ v ∧ v ≤ w ∧ w ≤ 500) ∧ M = M2)) := by
  refine zK.of "OldBeamsModel" rfl (by decide) (Nat.le_of_ble_eq_true rfl) ?_
  intro G hS hE hQ hL C
  subst hE
  subst hL
  show VJ G M 0 [some (.int (iI v)), some (.int (iI w))] []
  refine r_ild0 C (pc := 0) d_M_areYears_0 ?_
  refine call_M_isYear C (pc := 1) hS (c_M_isYear _ _ _ _ (by omega)) k_791 (by decide) (Nat.le_of_ble_eq_true rfl) rfl d_M_areYears_1 (kkI (fun r1 N1 h1 => ?_))
  obtain ⟨rfl, rfl⟩ := h1
  refine r_ifeqB C (pc := 4) (tgt := 24) d_M_areYears_4 (by decide) (fun c4 => ?_) (fun c4 => ?_)
  · refine r_iconst C (pc := 24) d_M_areYears_24 ?_
    exact r_zret C (pc := 25) hQ (by first | exact Or.inl rfl | exact Or.inr rfl | exact zb_01 _ | assumption) (⟨by first | rw [zb_pos (by omega)] | rw [zb_neg (by omega)], rfl⟩) d_M_areYears_25
  · refine r_ild1 C (pc := 7) d_M_areYears_7 ?_
    refine r_i2l C (pc := 8) (by omega) d_M_areYears_8 ?_
    refine r_ild0 C (pc := 9) d_M_areYears_9 ?_
    refine r_i2l C (pc := 10) (by omega) d_M_areYears_10 ?_
    refine r_ldc2 C (pc := 11) k_794 d_M_areYears_11 ?_
    refine call_M_in C (pc := 14) hS (c_M_in _ _ _ _ _ (500) (by omega) (by omega) (by omega)) k_777 (by decide) (Nat.le_of_ble_eq_true rfl) rfl d_M_areYears_14 (kkI (fun r14 N14 h14 => ?_))
    obtain ⟨rfl, rfl⟩ := h14
    refine r_ifeqB C (pc := 17) (tgt := 24) d_M_areYears_17 (by decide) (fun c17 => ?_) (fun c17 => ?_)
    · refine r_iconst C (pc := 24) d_M_areYears_24 ?_
      exact r_zret C (pc := 25) hQ (by first | exact Or.inl rfl | exact Or.inr rfl | exact zb_01 _ | assumption) (⟨by first | rw [zb_pos (by omega)] | rw [zb_neg (by omega)], rfl⟩) d_M_areYears_25
    · refine r_iconst C (pc := 20) d_M_areYears_20 ?_
      refine r_goto C (pc := 21) (tgt := 25) d_M_areYears_21 (by decide) ?_
      exact r_zret C (pc := 25) hQ (by first | exact Or.inl rfl | exact Or.inr rfl | exact zb_01 _ | assumption) (⟨by first | rw [zb_pos (by omega)] | rw [zb_neg (by omega)], rfl⟩) d_M_areYears_25
set_option maxRecDepth 20000 in
theorem c_M_isBeam (l : Launch) (E : zE) (M : zM) (S : zS) (hR : RM S M) (hO : ok S) (b : Int) (hb : -2147483648 ≤ b ∧ b < 2147483648) : zK l sM E y_M_isBeam b_M_isBeam 2 (some .boolean) 1 25 [.ref (E.2.2 0), .int (iI b)] M (zPi (fun r M2 => r = zb (0 ≤ b ∧ b < (S.1 0 : Int)) ∧ M = M2)) := by
  refine zK.of "OldBeamsModel" rfl (by decide) (Nat.le_of_ble_eq_true rfl) ?_
  intro G hS hE hQ hL C
  subst hE
  subst hL
  show VJ G M 0 [some (.ref (G.2.1.2.2 0)), some (.int (iI b))] []
  have h12 := hO.n
  have hbn : M.1 0 2 = (S.1 0 : Int) := hR.1.1
  refine r_ild1 C (pc := 0) d_M_isBeam_0 ?_
  refine r_i2l C (pc := 1) (by omega) d_M_isBeam_1 ?_
  refine r_lconst C (pc := 2) (v := 0) rfl d_M_isBeam_2 ?_
  refine r_ald0 C (pc := 3) d_M_isBeam_3 ?_
  refine gM_M_beams C (pc := 4) hS k_638 d_M_isBeam_4 ?_
  rw [hbn]
  refine r_iconst C (pc := 7) d_M_isBeam_7 ?_
  refine r_isub C (pc := 8) d_M_isBeam_8 ?_
  refine r_i2l C (pc := 9) (by omega) d_M_isBeam_9 ?_
  refine call_M_in C (pc := 10) hS (c_M_in _ _ _ _ (0) _ (by omega) (by omega) (by omega)) k_777 (by decide) (Nat.le_of_ble_eq_true rfl) rfl d_M_isBeam_10 (kkI (fun r10 N10 h10 => ?_))
  obtain ⟨rfl, rfl⟩ := h10
  exact r_zret C (pc := 13) hQ (by first | exact Or.inl rfl | exact Or.inr rfl | exact zb_01 _ | assumption) (⟨zb_congr (by omega), rfl⟩) d_M_isBeam_13
set_option maxRecDepth 20000 in
theorem l_M_looksAt_4 {G : zG} (C : zC G b_M_looksAt "OldBeamsModel" (some .int) 4 0 0) (hS : G.1 = sM) (M : zM) (S : zS) (hR : RM S M) (hO : ok S) (b : Nat) (hb : b < 12) (hQ : G.2.2.1 = zPi (fun r M2 => r = (lkN S b (S.1 2) : Int) ∧ M = M2)) : ∀ (n : Nat) (j : Nat), (j ≤ S.1 2) → (S.1 2 - j < n) → VJ G M 4 [some (.ref (zad G 0)), some (.int (iI (b : Int))), some (.int (iI (lkN S b j : Int))), some (.int (iI (j : Int)))] [] := by
  intro n
  induction n with
  | zero =>
    intro j hjn hn
    exact absurd hn (by omega)
  | succ n ih =>
    intro j hjn hn
    have hcap := hO.1
    have es := lkN_succ S b j
    have h8 := lkN_mono S b hjn
    have h88 := hO.2.2.2.2.2.2.2.2.2.2.2.1 b hb
    refine r_ild3 C (pc := 4) d_M_looksAt_4 ?_
    refine r_ald0 C (pc := 5) d_M_looksAt_5 ?_
    refine gM_M_looks C (pc := 6) hS k_667 d_M_looksAt_6 ?_
    rw [hR.1.2.2.1]
    refine r_icmp_ge C (pc := 9) (tgt := 36) (by omega) (by omega) d_M_looksAt_9 (by decide) (fun c9 => ?_) (fun c9 => ?_)
    · refine r_ild2 C (pc := 36) d_M_looksAt_36 ?_
      exact r_iret C (pc := 37) hQ (⟨by rw [show j = S.1 2 by omega], rfl⟩) d_M_looksAt_37
    · refine r_ild2 C (pc := 12) d_M_looksAt_12 ?_
      refine r_ald0 C (pc := 13) d_M_looksAt_13 ?_
      refine gM_M_lookBeam C (pc := 14) hS k_668 d_M_looksAt_14 ?_
      refine r_ild3 C (pc := 17) d_M_looksAt_17 ?_
      refine M_ialdN C (pc := 18) hS (j) (by omega) rfl (by decide) (by omega) (by decide) d_M_looksAt_18 ?_
      rw [(hR.2.2.2.2.2.2.2.2.2.2.1 j (by omega)).1]
      have hlo := hO.2.2.2.2.2.2.2.2.2.2.1 j (by omega)
      refine r_ild1 C (pc := 19) d_M_looksAt_19 ?_
      refine r_icmp_ne C (pc := 20) (tgt := 27) (by omega) (by omega) d_M_looksAt_20 (by decide) (fun c20 => ?_) (fun c20 => ?_)
      · refine r_iconst C (pc := 27) d_M_looksAt_27 ?_
        refine r_iadd C (pc := 28) d_M_looksAt_28 ?_
        refine r_ist2 C (pc := 29) rfl d_M_looksAt_29 ?_
        refine r_iinc3 C (pc := 30) rfl d_M_looksAt_30 ?_
        refine r_goto C (pc := 33) (tgt := 4) d_M_looksAt_33 (by decide) ?_
        refine r_weak ?_ (ih (j + 1) (by omega) (by omega))
        exact ⟨Or.inr rfl, Or.inr rfl, Or.inr (by rw [es]; first | (rw [if_pos c20]; rfl) | (rw [if_neg c20]; rfl)), Or.inr rfl, trivial⟩
      · refine r_iconst C (pc := 23) d_M_looksAt_23 ?_
        refine r_goto C (pc := 24) (tgt := 28) d_M_looksAt_24 (by decide) ?_
        refine r_iadd C (pc := 28) d_M_looksAt_28 ?_
        refine r_ist2 C (pc := 29) rfl d_M_looksAt_29 ?_
        refine r_iinc3 C (pc := 30) rfl d_M_looksAt_30 ?_
        refine r_goto C (pc := 33) (tgt := 4) d_M_looksAt_33 (by decide) ?_
        refine r_weak ?_ (ih (j + 1) (by omega) (by omega))
        exact ⟨Or.inr rfl, Or.inr rfl, Or.inr (by rw [es]; first | (rw [if_pos c20]; rfl) | (rw [if_neg c20]; rfl)), Or.inr rfl, trivial⟩
set_option maxRecDepth 20000 in
theorem c_M_looksAt (l : Launch) (E : zE) (M : zM) (S : zS) (hR : RM S M) (hO : ok S) (b : Nat) (hb : b < 12) : zK l sM E y_M_looksAt b_M_looksAt 4 (some .int) 0 0 [.ref (E.2.2 0), .int (iI (b : Int))] M (zPi (fun r M2 => r = (lkN S b (S.1 2) : Int) ∧ M = M2)) := by
  refine zK.of "OldBeamsModel" rfl (by decide) (Nat.le_of_ble_eq_true rfl) ?_
  intro G hS hE hQ hL C
  subst hE
  subst hL
  show VJ G M 0 [some (.ref (G.2.1.2.2 0)), some (.int (iI (b : Int))), none, none] []
  refine r_iconst C (pc := 0) d_M_looksAt_0 ?_
  refine r_ist2 C (pc := 1) rfl d_M_looksAt_1 ?_
  refine r_iconst C (pc := 2) d_M_looksAt_2 ?_
  refine r_ist3 C (pc := 3) rfl d_M_looksAt_3 ?_
  exact l_M_looksAt_4 C hS M S hR hO b hb hQ (S.1 2 + 1) 0 (by omega) (by omega)
set_option maxRecDepth 20000 in
theorem c_M_whole (l : Launch) (E : zE) (M : zM) (S : zS) (hR : RM S M) (hO : ok S) (b : Nat) (hb : b < S.1 0) : zK l sM E y_M_whole b_M_whole 2 (some .int) 0 0 [.ref (E.2.2 0), .int (iI (b : Int))] M (zPi (fun r M2 => r = wh S b ∧ M = M2)) := by
  refine zK.of "OldBeamsModel" rfl (by decide) (Nat.le_of_ble_eq_true rfl) ?_
  intro G hS hE hQ hL C
  subst hE
  subst hL
  show VJ G M 0 [some (.ref (G.2.1.2.2 0)), some (.int (iI (b : Int)))] []
  have h12 := hO.n
  have hbn : M.1 0 2 = (S.1 0 : Int) := hR.1.1
  have hbo := hO.2.2.1 b hb
  obtain ⟨⟨e0, e1, e2, e3⟩, hrs⟩ := hR.2.2.1 b hb
  have hkr := hR.2.1 (S.2 2 b 0).toNat (by unfold okB at hbo; omega)
  have hko := hO.2.1 (S.2 2 b 0).toNat (by unfold okB at hbo; omega)
  unfold okB at hbo
  obtain ⟨k0, -, w0, h0, -⟩ := hbo
  refine r_ald0 C (pc := 0) d_M_whole_0 ?_
  refine gM_M_grade C (pc := 1) hS k_636 d_M_whole_1 ?_
  refine r_ald0 C (pc := 4) d_M_whole_4 ?_
  refine gM_M_kind C (pc := 5) hS k_639 d_M_whole_5 ?_
  refine r_ild1 C (pc := 8) d_M_whole_8 ?_
  refine M_ialdN C (pc := 9) hS (b) (by omega) rfl (by decide) (by omega) (by decide) d_M_whole_9 ?_
  rw [e0]
  refine M_iald C (pc := 10) hS rfl (by decide) (by omega) (by omega) (by decide) d_M_whole_10 ?_
  rw [hkr.1]
  refine r_ald0 C (pc := 11) d_M_whole_11 ?_
  refine gM_M_width C (pc := 12) hS k_641 d_M_whole_12 ?_
  refine r_ild1 C (pc := 15) d_M_whole_15 ?_
  refine M_ialdN C (pc := 16) hS (b) (by omega) rfl (by decide) (by omega) (by decide) d_M_whole_16 ?_
  rw [e2]
  refine r_imul C (pc := 17) d_M_whole_17 ?_
  refine r_ald0 C (pc := 18) d_M_whole_18 ?_
  refine gM_M_height C (pc := 19) hS k_642 d_M_whole_19 ?_
  refine r_ild1 C (pc := 22) d_M_whole_22 ?_
  refine M_ialdN C (pc := 23) hS (b) (by omega) rfl (by decide) (by omega) (by decide) d_M_whole_23 ?_
  rw [e3]
  refine r_imul C (pc := 24) d_M_whole_24 ?_
  refine r_ald0 C (pc := 25) d_M_whole_25 ?_
  refine gM_M_height C (pc := 26) hS k_642 d_M_whole_26 ?_
  refine r_ild1 C (pc := 29) d_M_whole_29 ?_
  refine M_ialdN C (pc := 30) hS (b) (by omega) rfl (by decide) (by omega) (by decide) d_M_whole_30 ?_
  rw [e3]
  refine r_imul C (pc := 31) d_M_whole_31 ?_
  have m1 : S.2 1 (S.2 2 b 0).toNat 0 * S.2 2 b 2 ≤ 999 * 40 := Int.mul_le_mul (by omega) (by omega) (by omega) (by omega)
  have m1n : 0 ≤ S.2 1 (S.2 2 b 0).toNat 0 * S.2 2 b 2 := Int.mul_nonneg (by omega) (by omega)
  have m2 : S.2 1 (S.2 2 b 0).toNat 0 * S.2 2 b 2 * S.2 2 b 3 ≤ 999 * 40 * 40 := Int.mul_le_mul m1 (by omega) (by omega) (by omega)
  have m2n : 0 ≤ S.2 1 (S.2 2 b 0).toNat 0 * S.2 2 b 2 * S.2 2 b 3 := Int.mul_nonneg m1n (by omega)
  have m3 : S.2 1 (S.2 2 b 0).toNat 0 * S.2 2 b 2 * S.2 2 b 3 * S.2 2 b 3 ≤ 999 * 40 * 40 * 40 := Int.mul_le_mul m2 (by omega) (by omega) (by omega)
  have m3n : 0 ≤ S.2 1 (S.2 2 b 0).toNat 0 * S.2 2 b 2 * S.2 2 b 3 * S.2 2 b 3 := Int.mul_nonneg m2n (by omega)
  refine r_bipush C (pc := 32) (n := 100) rfl d_M_whole_32 ?_
  refine r_idiv C (pc := 34) (by omega) (by omega) d_M_whole_34 ?_
  exact r_iret C (pc := 35) hQ (⟨rfl, rfl⟩) d_M_whole_35
set_option maxRecDepth 20000 in
theorem c_M_comes (l : Launch) (E : zE) (M : zM) (S : zS) (hR : RM S M) (hO : ok S) (k : Nat) (hk : k < 4) (oc : Int) (hoc : oc = 0 ∨ oc = 1) (t : Nat) (ht : t < 11) : zK l sM E y_M_comes b_M_comes 4 (some .int) 0 0 [.ref (E.2.2 0), .int (iI (k : Int)), .int (iI oc), .int (iI (t : Int))] M (zPi (fun r M2 => r = (cmS S (k : Int) oc t : Int) ∧ M = M2)) := by
  refine zK.of "OldBeamsModel" rfl (by decide) (Nat.le_of_ble_eq_true rfl) ?_
  intro G hS hE hQ hL C
  subst hE
  subst hL
  show VJ G M 0 [some (.ref (G.2.1.2.2 0)), some (.int (iI (k : Int))), some (.int (iI oc)), some (.int (iI (t : Int)))] []
  have htr := hR.2.2.2.2.2.2.2.2.2.1 k hk t ht
  have hto := hO.2.2.2.2.2.2.2.2.2.1 k hk t ht
  refine r_ild2 C (pc := 0) d_M_comes_0 ?_
  refine r_iconst C (pc := 1) d_M_comes_1 ?_
  refine r_icmp_ne C (pc := 2) (tgt := 19) (by omega) (by omega) d_M_comes_2 (by decide) (fun c2 => ?_) (fun c2 => ?_)
  · refine r_bipush C (pc := 19) (n := 9) rfl d_M_comes_19 ?_
    refine r_ald0 C (pc := 21) d_M_comes_21 ?_
    refine gM_M_often C (pc := 22) hS k_666 d_M_comes_22 ?_
    refine r_bipush C (pc := 25) (n := 11) rfl d_M_comes_25 ?_
    refine r_ild1 C (pc := 27) d_M_comes_27 ?_
    refine r_imul C (pc := 28) d_M_comes_28 ?_
    refine r_ild3 C (pc := 29) d_M_comes_29 ?_
    refine r_iadd C (pc := 30) d_M_comes_30 ?_
    refine M_ialdN C (pc := 31) hS (11 * k + t) (by omega) rfl (by decide) (by omega) (by decide) d_M_comes_31 ?_
    rw [htr]
    refine r_isub C (pc := 32) d_M_comes_32 ?_
    exact r_iret C (pc := 33) hQ (⟨by unfold cmS; rw [Int.toNat_natCast]; first | (rw [if_pos c2]; omega) | (rw [if_neg c2]; omega), rfl⟩) d_M_comes_33
  · refine r_ald0 C (pc := 5) d_M_comes_5 ?_
    refine gM_M_often C (pc := 6) hS k_666 d_M_comes_6 ?_
    refine r_bipush C (pc := 9) (n := 11) rfl d_M_comes_9 ?_
    refine r_ild1 C (pc := 11) d_M_comes_11 ?_
    refine r_imul C (pc := 12) d_M_comes_12 ?_
    refine r_ild3 C (pc := 13) d_M_comes_13 ?_
    refine r_iadd C (pc := 14) d_M_comes_14 ?_
    refine M_ialdN C (pc := 15) hS (11 * k + t) (by omega) rfl (by decide) (by omega) (by decide) d_M_comes_15 ?_
    rw [htr]
    refine r_goto C (pc := 16) (tgt := 33) d_M_comes_16 (by decide) ?_
    exact r_iret C (pc := 33) hQ (⟨by unfold cmS; rw [Int.toNat_natCast]; first | (rw [if_pos c2]; omega) | (rw [if_neg c2]; omega), rfl⟩) d_M_comes_33
