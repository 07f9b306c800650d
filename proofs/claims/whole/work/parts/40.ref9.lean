theorem sN_two (p : Nat → Bool) (f : Nat → Nat) : ∀ n : Nat, sN (fun t => if p t then f t else 0) n + sN (fun t => if p t then 0 else f t) n = sN f n
  | 0 => rfl
  | n + 1 => by
    rw [sN_succ, sN_succ, sN_succ, ← sN_two p f n]
    cases p n <;> simp <;> omega
theorem kO_J0 (N : zM) (i : Nat) (x : Int64) : kO N (zJ N 0 i x) := ⟨fun _ _ _ => rfl, fun a q q2 q3 => zJ_fn q3⟩
theorem held_sum (S : zS) (b : Nat) (y : Int) : sN (fun t => if hoB S (psS S) (dA S (flS S)) b (t : Int) then OD S b y t else 0) 11 = held S b y := by
  have h := sN_two (fun t => hoB S (psS S) (dA S (flS S)) b (t : Int)) (OD S b y) 11
  unfold held allO lost lsN
  omega
set_option maxRecDepth 20000 in
theorem l_M_layChance_18 {G : zG} (C : zC G b_M_layChance "OldBeamsModel" none 4 3 76) (hS : G.1 = sM) (M : zM) (S : zS) (hR : RM S M) (hO : ok S) (b : Nat) (hb : b < S.1 0) (y : Int) (hy : 0 ≤ y ∧ y ≤ 500) (hj : hJm S (psS S) (dA S (flS S)) M b) (hQ : G.2.2.1 = zPv (fun M2 => kO M M2 ∧ (∀ t, t < 11 → M2.2 33 t = lN (OD S b y t)) ∧ M2.2 0 40 = lN (allO S b y) ∧ M2.2 0 39 = lN (held S b y))) : ∀ (n : Nat) (j : Nat) (N : zM), (j ≤ 11) → (kO M N) → (∀ t, t < 11 → N.2 33 t = lN (OD S b y t)) → (N.2 0 40 = lN (sN (OD S b y) j)) → (N.2 0 39 = lN (sN (fun t => if hoB S (psS S) (dA S (flS S)) b (t : Int) then OD S b y t else 0) j)) → (11 - j < n) → VJ G N 18 [some (.ref (zad G 0)), some (.int (iI (b : Int))), some (.int (iI y)), some (.int (iI (j : Int)))] [] := by
  intro n
  induction n with
  | zero =>
    intro j N hj11 g1 g2 g3 g4 hn
    exact absurd hn (by omega)
  | succ n ih =>
    intro j N hj11 g1 g2 g3 g4 hn
    have h12 := hO.n
    have hRN := RMk hR hO g1.k
    have es := sN_succ (fun t => if hoB S (psS S) (dA S (flS S)) b (t : Int) then OD S b y t else 0) j
    refine r_ild3 C (pc := 18) d_M_layChance_18 ?_
    refine r_bipush C (pc := 19) (n := 11) rfl d_M_layChance_19 ?_
    refine r_icmp_ge C (pc := 21) (tgt := 73) (by omega) (by omega) d_M_layChance_21 (by decide) (fun c21 => ?_) (fun c21 => ?_)
    · exact r_vret C (pc := 73) hQ (⟨g1, g2, by rw [g3, show j = 11 by omega]; rfl, by rw [g4, show j = 11 by omega, held_sum]⟩) d_M_layChance_73
    · refine r_ald0 C (pc := 24) d_M_layChance_24 ?_
      refine r_dup C (pc := 25) rfl d_M_layChance_25 ?_
      refine gM_M_allSum C (pc := 26) hS k_676 d_M_layChance_26 ?_
      rw [g3]
      refine r_ald0 C (pc := 29) d_M_layChance_29 ?_
      refine gM_M_odds C (pc := 30) hS k_672 d_M_layChance_30 ?_
      refine r_ild3 C (pc := 33) d_M_layChance_33 ?_
      refine M_laldN C (pc := 34) hS (j) (by omega) rfl (by decide) (by omega) (by decide) d_M_layChance_34 ?_
      rw [g2 j (by omega)]
      refine r_ladd C (pc := 35) d_M_layChance_35 ?_
      rw [lN_add, ← sN_succ]
      refine pM_M_allSum C (pc := 36) hS k_676 d_M_layChance_36 ?_
      refine r_ald0 C (pc := 39) d_M_layChance_39 ?_
      refine r_dup C (pc := 40) rfl d_M_layChance_40 ?_
      refine gM_M_holdSum C (pc := 41) hS k_675 d_M_layChance_41 ?_
      rw [zJ_row (by decide), g4]
      refine r_ald0 C (pc := 44) d_M_layChance_44 ?_
      refine r_ild1 C (pc := 45) d_M_layChance_45 ?_
      refine r_ild3 C (pc := 46) d_M_layChance_46 ?_
      refine call_M_isHolding C (pc := 47) hS (c_M_isHolding _ _ (zJ N 0 40 (lN (sN (OD S b y) (j + 1)))) S (RMk hRN hO (kM_J rfl)) hO b hb (dA S (flS S)) (psS S) ((g1.tr (kO_J0 N 40 _)).j hj) (j : Int) (by omega)) k_902 (by decide) (Nat.le_of_ble_eq_true rfl) rfl d_M_layChance_47 (kkI (fun r47 N47 h47 => ?_))
      obtain ⟨rfl, rfl⟩ := h47
      refine r_ifeqB C (pc := 50) (tgt := 62) d_M_layChance_50 (by decide) (fun c50 => ?_) (fun c50 => ?_)
      · refine r_lconst C (pc := 62) (v := 0) rfl d_M_layChance_62 ?_
        refine r_ladd C (pc := 63) d_M_layChance_63 ?_
        first | rw [lN_add] | rw [Int64.add_zero]
        refine pM_M_holdSum C (pc := 64) hS k_675 d_M_layChance_64 ?_
        refine r_iinc3 C (pc := 67) rfl d_M_layChance_67 ?_
        refine r_goto C (pc := 70) (tgt := 18) d_M_layChance_70 (by decide) ?_
        refine ih (j + 1) _ (by omega) (g1.tr ⟨fun _ _ _ => rfl, fun a q q2 q3 => (zJ_fn q3).trans (zJ_fn q3)⟩) (fun t ht => by rw [zJ_ne (by decide), zJ_ne (by decide)]; exact g2 t ht) (by rw [zJ_row (by decide), zJ_same]) ?_ (by omega)
        rw [zJ_same, es]
        first | rw [if_pos c50] | rw [if_neg c50, Nat.add_zero]
      · refine r_ald0 C (pc := 53) d_M_layChance_53 ?_
        refine gM_M_odds C (pc := 54) hS k_672 d_M_layChance_54 ?_
        refine r_ild3 C (pc := 57) d_M_layChance_57 ?_
        refine M_laldN C (pc := 58) hS (j) (by omega) rfl (by decide) (by omega) (by decide) d_M_layChance_58 ?_
        rw [zJ_ne (by decide), g2 j (by omega)]
        refine r_goto C (pc := 59) (tgt := 63) d_M_layChance_59 (by decide) ?_
        refine r_ladd C (pc := 63) d_M_layChance_63 ?_
        first | rw [lN_add] | rw [Int64.add_zero]
        refine pM_M_holdSum C (pc := 64) hS k_675 d_M_layChance_64 ?_
        refine r_iinc3 C (pc := 67) rfl d_M_layChance_67 ?_
        refine r_goto C (pc := 70) (tgt := 18) d_M_layChance_70 (by decide) ?_
        refine ih (j + 1) _ (by omega) (g1.tr ⟨fun _ _ _ => rfl, fun a q q2 q3 => (zJ_fn q3).trans (zJ_fn q3)⟩) (fun t ht => by rw [zJ_ne (by decide), zJ_ne (by decide)]; exact g2 t ht) (by rw [zJ_row (by decide), zJ_same]) ?_ (by omega)
        rw [zJ_same, es]
        first | rw [if_pos c50] | rw [if_neg c50, Nat.add_zero]
set_option maxRecDepth 20000 in
theorem c_M_layChance (l : Launch) (E : zE) (M : zM) (S : zS) (hR : RM S M) (hO : ok S) (b : Nat) (hb : b < S.1 0) (y : Int) (hy : 0 ≤ y ∧ y ≤ 500) (hj : hJm S (psS S) (dA S (flS S)) M b) : zK l sM E y_M_layChance b_M_layChance 4 none 3 76 [.ref (E.2.2 0), .int (iI (b : Int)), .int (iI y)] M (zPv (fun M2 => kO M M2 ∧ (∀ t, t < 11 → M2.2 33 t = lN (OD S b y t)) ∧ M2.2 0 40 = lN (allO S b y) ∧ M2.2 0 39 = lN (held S b y))) := by
  refine zK.of "OldBeamsModel" rfl (by decide) (Nat.le_of_ble_eq_true rfl) ?_
  intro G hS hE hQ hL C
  subst hE
  subst hL
  show VJ G M 0 [some (.ref (G.2.1.2.2 0)), some (.int (iI (b : Int))), some (.int (iI y)), none] []
  have h12 := hO.n
  refine r_ald0 C (pc := 0) d_M_layChance_0 ?_
  refine r_ild1 C (pc := 1) d_M_layChance_1 ?_
  refine r_ild2 C (pc := 2) d_M_layChance_2 ?_
  refine call_M_layOdds C (pc := 3) hS (c_M_layOdds _ _ M S hR hO b (by omega) y (by omega)) k_934 (by decide) (Nat.le_of_ble_eq_true rfl) rfl d_M_layChance_3 (kkV (fun N3 h3 => ?_))
  obtain ⟨a1, a2, a3⟩ := h3
  refine r_ald0 C (pc := 6) d_M_layChance_6 ?_
  refine r_lconst C (pc := 7) (v := 0) rfl d_M_layChance_7 ?_
  refine pM_M_holdSum C (pc := 8) hS k_675 d_M_layChance_8 ?_
  refine r_ald0 C (pc := 11) d_M_layChance_11 ?_
  refine r_lconst C (pc := 12) (v := 0) rfl d_M_layChance_12 ?_
  refine pM_M_allSum C (pc := 13) hS k_676 d_M_layChance_13 ?_
  refine r_iconst C (pc := 16) d_M_layChance_16 ?_
  refine r_ist3 C (pc := 17) rfl d_M_layChance_17 ?_
  exact l_M_layChance_18 C hS M S hR hO b hb y hy hj hQ 12 0 _ (by omega) (a1.tr ⟨fun _ _ _ => rfl, fun a q q2 q3 => (zJ_fn q3).trans (zJ_fn q3)⟩) (fun t ht => by rw [zJ_ne (by decide), zJ_ne (by decide)]; exact a2 t ht) (zJ_same _ _ _ _) (by rw [zJ_row (by decide)]; exact zJ_same _ _ _ _) (by omega)
set_option maxRecDepth 20000 in
theorem c_M_least (l : Launch) (E : zE) (M : zM) (S : zS) (hR : RM S M) (hO : ok S) (a h : Nat) (ha : a < 2 ^ 45) (hh : h ≤ a) : zK l sM E y_M_least b_M_least 9 (some .long) 0 0 [.ref (E.2.2 0), .long (lN a), .long (lN h)] M (zPl (fun r M2 => r = lN (co S a (a - h)) ∧ M = M2)) := by
  refine zK.of "OldBeamsModel" rfl (by decide) (Nat.le_of_ble_eq_true rfl) ?_
  intro G hS hE hQ hL C
  subst hE
  subst hL
  show VJ G M 0 [some (.ref (G.2.1.2.2 0)), some (.long (lN a)), none, some (.long (lN h)), none, none, none, none, none] []
  have hpr := hR.2.2.2.2.2.2.2.2.2.2.2
  have hpo := hO.2.2.2.2.2.2.2.2.2.2.2.2.1
  have hpo2 := hO.2.2.2.2.2.2.2.2.2.2.2.2.2
  have m1 : (S.2 11 0 0).toNat * a ≤ 9999 * a := Nat.mul_le_mul_right a (by omega)
  have m2 : (S.2 11 1 0).toNat * (a - h) ≤ 9999 * (a - h) := Nat.mul_le_mul_right (a - h) (by omega)
  refine r_ald0 C (pc := 0) d_M_least_0 ?_
  refine gM_M_mend C (pc := 1) hS k_679 d_M_least_1 ?_
  rw [hpr.1]
  refine r_i2l C (pc := 4) (by omega) d_M_least_4 ?_
  rw [lI_lN (by omega)]
  refine r_lld1 C (pc := 5) d_M_least_5 ?_
  refine r_lmul C (pc := 6) d_M_least_6 ?_
  rw [lN_mul]
  refine r_lst5 C (pc := 7) rfl d_M_least_7 ?_
  refine r_ald0 C (pc := 9) d_M_least_9 ?_
  refine gM_M_loss C (pc := 10) hS k_680 d_M_least_10 ?_
  rw [hpr.2]
  refine r_i2l C (pc := 13) (by omega) d_M_least_13 ?_
  rw [lI_lN (by omega)]
  refine r_lld1 C (pc := 14) d_M_least_14 ?_
  refine r_lld3 C (pc := 15) d_M_least_15 ?_
  refine r_lsub C (pc := 16) d_M_least_16 ?_
  rw [lN_sub hh]
  refine r_lmul C (pc := 17) d_M_least_17 ?_
  rw [lN_mul]
  refine r_lst7 C (pc := 18) rfl d_M_least_18 ?_
  refine r_lld5 C (pc := 20) d_M_least_20 ?_
  refine r_lld7 C (pc := 22) d_M_least_22 ?_
  refine r_lcmp_ge C (pc := 24) (tgt := 33) d_M_least_24 d_M_least_25 (by decide) (fun c24 => ?_) (fun c24 => ?_)
  · have q := (pk_lLE (a := (S.2 11 1 0).toNat * (a - h)) (b := (S.2 11 0 0).toNat * a) (by omega) (by omega)).mp c24
    have e : co S a (a - h) = (S.2 11 1 0).toNat * (a - h) := by unfold co; split <;> omega
    refine r_lld7 C (pc := 33) d_M_least_33 ?_
    exact r_lret C (pc := 35) hQ (⟨by rw [e], rfl⟩) d_M_least_35
  · have q := mt (pk_lLE (a := (S.2 11 1 0).toNat * (a - h)) (b := (S.2 11 0 0).toNat * a) (by omega) (by omega)).mpr c24
    have e : co S a (a - h) = (S.2 11 0 0).toNat * a := by unfold co; split <;> omega
    refine r_lld5 C (pc := 28) d_M_least_28 ?_
    refine r_goto C (pc := 30) (tgt := 35) d_M_least_30 (by decide) ?_
    exact r_lret C (pc := 35) hQ (⟨by rw [e], rfl⟩) d_M_least_35
set_option maxRecDepth 20000 in
theorem c_M_chance (l : Launch) (E : zE) (M : zM) (S : zS) (hR : RM S M) (hO : ok S) (b y z : Int) (hb : -2147483648 ≤ b ∧ b < 2147483648) (hy : -2147483648 ≤ y ∧ y < 2147483648) (hz : z = 0 ∨ z = 1) : zK l sM E y_M_chance b_M_chance 5 (some .long) 5 114 [.ref (E.2.2 0), .int (iI b), .int (iI y), .int (iI z)] M (zPl (fun r M2 => r = fChance S b y z ∧ RM S M2)) := by
  refine zK.of "OldBeamsModel" rfl (by decide) (Nat.le_of_ble_eq_true rfl) ?_
  intro G hS hE hQ hL C
  subst hE
  subst hL
  show VJ G M 0 [some (.ref (G.2.1.2.2 0)), some (.int (iI b)), some (.int (iI y)), some (.int (iI z)), none] []
  have h12 := hO.n
  have hbn : M.1 0 2 = (S.1 0 : Int) := hR.1.1
  refine r_ald0 C (pc := 0) d_M_chance_0 ?_
  refine r_ild1 C (pc := 1) d_M_chance_1 ?_
  refine r_ild2 C (pc := 2) d_M_chance_2 ?_
  refine call_M_isYear C (pc := 3) hS (c_M_isYear _ _ _ _ (by omega)) k_791 (by decide) (Nat.le_of_ble_eq_true rfl) rfl d_M_chance_3 (kkI (fun r3 N3 h3 => ?_))
  obtain ⟨rfl, rfl⟩ := h3
  refine call_M_mayTell C (pc := 6) hS (c_M_mayTell _ _ M S hR hO b _ (by omega) (by first | exact zb_01 _ | decide)) k_878 (by decide) (Nat.le_of_ble_eq_true rfl) rfl d_M_chance_6 (kkI (fun r6 N6 h6 => ?_))
  obtain ⟨rfl, b1, bb⟩ := h6
  have er : rfS S b (zb (0 ≤ y ∧ y ≤ 500) = 1) = rfS S b (0 ≤ y ∧ y ≤ 500) := rfS_congr (zb_1 _)
  rw [er] at bb ⊢
  have hrr := rfS_rng S b (0 ≤ y ∧ y ≤ 500)
  refine r_ist4 C (pc := 9) rfl d_M_chance_9 ?_
  refine r_ild4 C (pc := 11) d_M_chance_11 ?_
  refine r_if_ge C (pc := 13) (tgt := 20) (by omega) d_M_chance_13 (by decide) (fun c13 => ?_) (fun c13 => ?_)
  · have hR2 := RMk hR hO b1
    have cc : rfS S b (0 ≤ y ∧ y ≤ 500) = 0 := by omega
    obtain ⟨b2, b4, b3⟩ := bb cc
    obtain ⟨⟨hb0, hb1⟩, hin, hdn⟩ := rfS_0 cc
    obtain ⟨b, rfl⟩ := Int.eq_ofNat_of_zero_le hb0
    rw [Int.toNat_natCast] at hdn
    have hb : b < S.1 0 := by omega
    refine r_ald0 C (pc := 20) d_M_chance_20 ?_
    refine r_ild1 C (pc := 21) d_M_chance_21 ?_
    refine r_ild2 C (pc := 22) d_M_chance_22 ?_
    refine call_M_layChance C (pc := 23) hS (c_M_layChance _ _ N6 S hR2 hO b hb y (by omega) (b3 b hb hdn)) k_980 (by decide) (Nat.le_of_ble_eq_true rfl) rfl d_M_chance_23 (kkV (fun N23 h23 => ?_))
    obtain ⟨a1, a2, a3, a4⟩ := h23
    have hR3 := RMk hR2 hO a1.k
    have hab := all_bnd hO hb y
    have hhl := held_le S b y
    refine r_ald0 C (pc := 26) d_M_chance_26 ?_
    refine gM_M_holdSum C (pc := 27) hS k_675 d_M_chance_27 ?_
    rw [a4]
    refine r_ald0 C (pc := 30) d_M_chance_30 ?_
    refine gM_M_allSum C (pc := 31) hS k_676 d_M_chance_31 ?_
    rw [a3]
    refine r_ild3 C (pc := 34) d_M_chance_34 ?_
    refine call_M_told C (pc := 35) hS (c_M_told _ _ _ (held S b y) (allO S b y) (by omega) (by omega) hab.1 z hz) k_984 (by decide) (Nat.le_of_ble_eq_true rfl) rfl d_M_chance_35 (kkL (fun r35 N35 h35 => ?_))
    obtain ⟨rfl, rfl⟩ := h35
    exact r_lret C (pc := 38) hQ (⟨by unfold fChance; rw [if_neg (by omega), Int.toNat_natCast], hR3⟩) d_M_chance_38
  · refine r_ild4 C (pc := 16) d_M_chance_16 ?_
    refine r_i2l C (pc := 18) (by omega) d_M_chance_18 ?_
    exact r_lret C (pc := 19) hQ (⟨by unfold fChance; rw [if_pos (by omega)], RMk hR hO b1⟩) d_M_chance_19
set_option maxRecDepth 20000 in
theorem c_M_mean (l : Launch) (E : zE) (M : zM) (S : zS) (hR : RM S M) (hO : ok S) (b y z : Int) (hb : -2147483648 ≤ b ∧ b < 2147483648) (hy : -2147483648 ≤ y ∧ y < 2147483648) (hz : z = 0 ∨ z = 1) : zK l sM E y_M_mean b_M_mean 5 (some .long) 5 114 [.ref (E.2.2 0), .int (iI b), .int (iI y), .int (iI z)] M (zPl (fun r M2 => r = fMean S b y z ∧ RM S M2)) := by
  refine zK.of "OldBeamsModel" rfl (by decide) (Nat.le_of_ble_eq_true rfl) ?_
  intro G hS hE hQ hL C
  subst hE
  subst hL
  show VJ G M 0 [some (.ref (G.2.1.2.2 0)), some (.int (iI b)), some (.int (iI y)), some (.int (iI z)), none] []
  have h12 := hO.n
  have hbn : M.1 0 2 = (S.1 0 : Int) := hR.1.1
  refine r_ald0 C (pc := 0) d_M_mean_0 ?_
  refine r_ild1 C (pc := 1) d_M_mean_1 ?_
  refine r_ild2 C (pc := 2) d_M_mean_2 ?_
  refine call_M_isYear C (pc := 3) hS (c_M_isYear _ _ _ _ (by omega)) k_791 (by decide) (Nat.le_of_ble_eq_true rfl) rfl d_M_mean_3 (kkI (fun r3 N3 h3 => ?_))
  obtain ⟨rfl, rfl⟩ := h3
  refine call_M_mayTell C (pc := 6) hS (c_M_mayTell _ _ M S hR hO b _ (by omega) (by first | exact zb_01 _ | decide)) k_878 (by decide) (Nat.le_of_ble_eq_true rfl) rfl d_M_mean_6 (kkI (fun r6 N6 h6 => ?_))
  obtain ⟨rfl, b1, bb⟩ := h6
  have er : rfS S b (zb (0 ≤ y ∧ y ≤ 500) = 1) = rfS S b (0 ≤ y ∧ y ≤ 500) := rfS_congr (zb_1 _)
  rw [er] at bb ⊢
  have hrr := rfS_rng S b (0 ≤ y ∧ y ≤ 500)
  refine r_ist4 C (pc := 9) rfl d_M_mean_9 ?_
  refine r_ild4 C (pc := 11) d_M_mean_11 ?_
  refine r_if_ge C (pc := 13) (tgt := 20) (by omega) d_M_mean_13 (by decide) (fun c13 => ?_) (fun c13 => ?_)
  · have hR2 := RMk hR hO b1
    have cc : rfS S b (0 ≤ y ∧ y ≤ 500) = 0 := by omega
    obtain ⟨b2, b4, b3⟩ := bb cc
    obtain ⟨⟨hb0, hb1⟩, hin, hdn⟩ := rfS_0 cc
    obtain ⟨b, rfl⟩ := Int.eq_ofNat_of_zero_le hb0
    rw [Int.toNat_natCast] at hdn
    have hb : b < S.1 0 := by omega
    refine r_ald0 C (pc := 20) d_M_mean_20 ?_
    refine r_ild1 C (pc := 21) d_M_mean_21 ?_
    refine r_ild2 C (pc := 22) d_M_mean_22 ?_
    refine call_M_layChance C (pc := 23) hS (c_M_layChance _ _ N6 S hR2 hO b hb y (by omega) (b3 b hb hdn)) k_980 (by decide) (Nat.le_of_ble_eq_true rfl) rfl d_M_mean_23 (kkV (fun N23 h23 => ?_))
    obtain ⟨a1, a2, a3, a4⟩ := h23
    have hR3 := RMk hR2 hO a1.k
    have hab := all_bnd hO hb y
    have hhl := held_le S b y
    refine r_ald0 C (pc := 26) d_M_mean_26 ?_
    refine r_ald0 C (pc := 27) d_M_mean_27 ?_
    refine gM_M_allSum C (pc := 28) hS k_676 d_M_mean_28 ?_
    rw [a3]
    refine r_ald0 C (pc := 31) d_M_mean_31 ?_
    refine gM_M_holdSum C (pc := 32) hS k_675 d_M_mean_32 ?_
    rw [a4]
    refine call_M_least C (pc := 35) hS (c_M_least _ _ N23 S hR3 hO (allO S b y) (held S b y) (by omega) hhl) k_1036 (by decide) (Nat.le_of_ble_eq_true rfl) rfl d_M_mean_35 (kkL (fun r35 N35 h35 => ?_))
    obtain ⟨rfl, rfl⟩ := h35
    have hlo : allO S b y - held S b y = lost S b y := by have := lsN_le S b (OD S b y); unfold held; have e : lost S b y ≤ allO S b y := this; omega
    rw [hlo]
    have hcl := co_le hO (allO S b y) (lost S b y)
    refine r_ald0 C (pc := 38) d_M_mean_38 ?_
    refine gM_M_allSum C (pc := 39) hS k_676 d_M_mean_39 ?_
    rw [a3]
    refine r_ild3 C (pc := 42) d_M_mean_42 ?_
    refine call_M_told C (pc := 43) hS (c_M_told _ _ _ (co S (allO S b y) (lost S b y)) (allO S b y) (by omega) (by omega) hab.1 z hz) k_984 (by decide) (Nat.le_of_ble_eq_true rfl) rfl d_M_mean_43 (kkL (fun r43 N43 h43 => ?_))
    obtain ⟨rfl, rfl⟩ := h43
    exact r_lret C (pc := 46) hQ (⟨by unfold fMean; rw [if_neg (by omega), Int.toNat_natCast], hR3⟩) d_M_mean_46
  · refine r_ild4 C (pc := 16) d_M_mean_16 ?_
    refine r_i2l C (pc := 18) (by omega) d_M_mean_18 ?_
    exact r_lret C (pc := 19) hQ (⟨by unfold fMean; rw [if_pos (by omega)], RMk hR hO b1⟩) d_M_mean_19
def fOc (S : zS) (b : Nat) (y : Int) (k : Nat) (oc : Int) : Nat → Nat := fun t => OD S b y t * cmS S (k : Int) oc t
def hOc (S : zS) (b : Nat) (y : Int) (k : Nat) (oc : Int) : Nat → Nat := fun t => if hoB S (psS S) (dA S (flS S)) b (t : Int) then fOc S b y k oc t else 0
theorem sN_lin {f g h : Nat → Nat} : ∀ n : Nat, (∀ t, t < n → f t + g t = 9 * h t) → sN f n + sN g n = 9 * sN h n
  | 0, _ => rfl
  | n + 1, q => by
    have h1 := sN_lin n (fun t ht => q t (by omega))
    have h2 := q n (by omega)
    rw [sN_succ, sN_succ, sN_succ]
    omega
theorem f_nine {S : zS} (hO : ok S) (b : Nat) (y : Int) {k : Nat} (hk : k < 4) {t : Nat} (ht : t < 11) : fOc S b y k 0 t + by1 S b y k t = 9 * OD S b y t := by
  have h := hO.2.2.2.2.2.2.2.2.2.1 k hk t ht
  unfold fOc by1 cmS
  rw [if_neg (by decide), Int.toNat_natCast, ← Nat.mul_add, show 9 - (S.2 9 k t).toNat + (S.2 9 k t).toNat = 9 by omega, Nat.mul_comm]
theorem f_one (S : zS) (b : Nat) (y : Int) (k : Nat) : fOc S b y k 1 = by1 S b y k := funext fun t => by
  unfold fOc by1 cmS
  rw [if_pos rfl, Int.toNat_natCast]
theorem f_lost (S : zS) (b : Nat) (y : Int) (k : Nat) (oc : Int) : sN (fOc S b y k oc) 11 - sN (hOc S b y k oc) 11 = lsN S b (fOc S b y k oc) := by
  have h := sN_two (fun t => hoB S (psS S) (dA S (flS S)) b (t : Int)) (fOc S b y k oc) 11
  unfold lsN
  show sN (fOc S b y k oc) 11 - sN (fun t => if hoB S (psS S) (dA S (flS S)) b (t : Int) then fOc S b y k oc t else 0) 11 = _
  omega
theorem f_hle (S : zS) (b : Nat) (y : Int) (k : Nat) (oc : Int) : sN (hOc S b y k oc) 11 ≤ sN (fOc S b y k oc) 11 := sN_le 11 (fun t _ => by
  unfold hOc
  split <;> omega)
theorem f_0all {S : zS} (hO : ok S) (b : Nat) (y : Int) {k : Nat} (hk : k < 4) : sN (fOc S b y k 0) 11 = 9 * allO S b y - sN (by1 S b y k) 11 := by
  have : sN (fOc S b y k 0) 11 + sN (by1 S b y k) 11 = 9 * sN (OD S b y) 11 := sN_lin 11 (fun t ht => f_nine hO b y hk ht)
  unfold allO
  omega
theorem f_0lost {S : zS} (hO : ok S) (b : Nat) (y : Int) {k : Nat} (hk : k < 4) : lsN S b (fOc S b y k 0) = 9 * lost S b y - lsN S b (by1 S b y k) := by
  have h : lsN S b (fOc S b y k 0) + lsN S b (by1 S b y k) = 9 * lsN S b (OD S b y) := sN_lin (f := fun t => if hoB S (psS S) (dA S (flS S)) b (t : Int) then 0 else fOc S b y k 0 t) (g := fun t => if hoB S (psS S) (dA S (flS S)) b (t : Int) then 0 else by1 S b y k t) (h := fun t => if hoB S (psS S) (dA S (flS S)) b (t : Int) then 0 else OD S b y t) 11 (fun t ht => by
    have := f_nine hO b y hk ht
    by_cases q : hoB S (psS S) (dA S (flS S)) b (t : Int) = true
    · simp [q]
    · simp [q, this])
  unfold lost
  omega
theorem lost_eq (S : zS) (b : Nat) (y : Int) : allO S b y - held S b y = lost S b y := by
  have h : lost S b y ≤ allO S b y := lsN_le S b (OD S b y)
  unfold held
  omega
set_option maxRecDepth 20000 in
theorem l_M_worthOf_35 {G : zG} (C : zC G b_M_worthOf "OldBeamsModel" (some .long) 13 2 43) (hS : G.1 = sM) (M : zM) (S : zS) (hR : RM S M) (hO : ok S) (b : Nat) (hb : b < S.1 0) (y : Int) (hy : 0 ≤ y ∧ y ≤ 500) (hj : hJm S (psS S) (dA S (flS S)) M b) (k : Nat) (hk : k < 4) (a2 : ∀ t, t < 11 → M.2 33 t = lN (OD S b y t)) (a3 : M.2 0 40 = lN (allO S b y)) (a4 : M.2 0 39 = lN (held S b y)) (oc : Int) (hoc : oc = 0 ∨ oc = 1) (x9 : Int64) (K : VJ G M 96 [some (.ref (zad G 0)), some (.int (iI (b : Int))), some (.int (iI (k : Int))), some (.long x9), none, some (.int (iI oc)), some (.long (lN (sN (fOc S b y k oc) 11))), none, some (.long (lN (sN (hOc S b y k oc) 11))), none, none, none, none] []) (hQ : G.2.2.1 = zPl (fun r M2 => r = lN (wor S b y k) ∧ M = M2)) : ∀ (n : Nat) (j : Nat), (j ≤ 11) → (11 - j < n) → VJ G M 35 [some (.ref (zad G 0)), some (.int (iI (b : Int))), some (.int (iI (k : Int))), some (.long x9), none, some (.int (iI oc)), some (.long (lN (sN (fOc S b y k oc) j))), none, some (.long (lN (sN (hOc S b y k oc) j))), none, some (.int (iI (j : Int))), none, none] [] := by
  intro n
  induction n with
  | zero =>
    intro j hj11 hn
    exact absurd hn (by omega)
  | succ n ih =>
    intro j hj11 hn
    have h12 := hO.n
    have es := sN_succ (hOc S b y k oc) j
    have eh : hOc S b y k oc j = if hoB S (psS S) (dA S (flS S)) b (j : Int) then fOc S b y k oc j else 0 := rfl
    refine r_ild10 C (pc := 35) d_M_worthOf_35 ?_
    refine r_bipush C (pc := 37) (n := 11) rfl d_M_worthOf_37 ?_
    refine r_icmp_ge C (pc := 39) (tgt := 96) (by omega) (by omega) d_M_worthOf_39 (by decide) (fun c39 => ?_) (fun c39 => ?_)
    · have ej : j = 11 := by omega
      subst ej
      refine r_weak ?_ K
      exact ⟨Or.inr rfl, Or.inr rfl, Or.inr rfl, Or.inr rfl, Or.inr rfl, Or.inr rfl, Or.inr rfl, Or.inr rfl, Or.inr rfl, Or.inr rfl, Or.inl rfl, Or.inr rfl, Or.inr rfl, trivial⟩
    · refine r_ald0 C (pc := 42) d_M_worthOf_42 ?_
      refine gM_M_odds C (pc := 43) hS k_672 d_M_worthOf_43 ?_
      refine r_ild10 C (pc := 46) d_M_worthOf_46 ?_
      refine M_laldN C (pc := 48) hS (j) (by omega) rfl (by decide) (by omega) (by decide) d_M_worthOf_48 ?_
      rw [a2 j (by omega)]
      refine r_ald0 C (pc := 49) d_M_worthOf_49 ?_
      refine r_ild2 C (pc := 50) d_M_worthOf_50 ?_
      refine r_ild5 C (pc := 51) d_M_worthOf_51 ?_
      refine r_ild10 C (pc := 53) d_M_worthOf_53 ?_
      refine call_M_comes C (pc := 55) hS (c_M_comes _ _ M S hR hO k hk oc hoc j (by omega)) k_942 (by decide) (Nat.le_of_ble_eq_true rfl) rfl d_M_worthOf_55 (kkI (fun r55 N55 h55 => ?_))
      obtain ⟨rfl, rfl⟩ := h55
      have hcm := cmS_le hO (k := (k : Int)) (oc := oc) (by omega) (t := j) (by omega)
      refine r_i2l C (pc := 58) (by omega) d_M_worthOf_58 ?_
      rw [lI_nat]
      refine r_lmul C (pc := 59) d_M_worthOf_59 ?_
      rw [lN_mul, show OD S b y j * cmS S (k : Int) oc j = fOc S b y k oc j from rfl]
      refine r_lst11 C (pc := 60) rfl d_M_worthOf_60 ?_
      refine r_lld6 C (pc := 62) d_M_worthOf_62 ?_
      refine r_lld11 C (pc := 64) d_M_worthOf_64 ?_
      refine r_ladd C (pc := 66) d_M_worthOf_66 ?_
      rw [lN_add, ← sN_succ]
      refine r_lst6 C (pc := 67) rfl d_M_worthOf_67 ?_
      refine r_lld8 C (pc := 69) d_M_worthOf_69 ?_
      refine r_ald0 C (pc := 71) d_M_worthOf_71 ?_
      refine r_ild1 C (pc := 72) d_M_worthOf_72 ?_
      refine r_ild10 C (pc := 73) d_M_worthOf_73 ?_
      refine call_M_isHolding C (pc := 75) hS (c_M_isHolding _ _ M S hR hO b hb (dA S (flS S)) (psS S) hj (j : Int) (by omega)) k_902 (by decide) (Nat.le_of_ble_eq_true rfl) rfl d_M_worthOf_75 (kkI (fun r75 N75 h75 => ?_))
      obtain ⟨rfl, rfl⟩ := h75
      refine r_ifeqB C (pc := 78) (tgt := 86) d_M_worthOf_78 (by decide) (fun c78 => ?_) (fun c78 => ?_)
      · refine r_lconst C (pc := 86) (v := 0) rfl d_M_worthOf_86 ?_
        refine r_ladd C (pc := 87) d_M_worthOf_87 ?_
        first | rw [lN_add] | rw [Int64.add_zero]
        refine r_lst8 C (pc := 88) rfl d_M_worthOf_88 ?_
        refine r_iinc10 C (pc := 90) rfl d_M_worthOf_90 ?_
        refine r_goto C (pc := 93) (tgt := 35) d_M_worthOf_93 (by decide) ?_
        refine r_weak ?_ (ih (j + 1) (by omega) (by omega))
        exact ⟨Or.inr rfl, Or.inr rfl, Or.inr rfl, Or.inr rfl, Or.inr rfl, Or.inr rfl, Or.inr rfl, Or.inr rfl, Or.inr (by rw [es, eh]; first | rw [if_pos c78] | rw [if_neg c78, Nat.add_zero]), Or.inr rfl, Or.inr rfl, Or.inl rfl, Or.inl rfl, trivial⟩
      · refine r_lld11 C (pc := 81) d_M_worthOf_81 ?_
        refine r_goto C (pc := 83) (tgt := 87) d_M_worthOf_83 (by decide) ?_
        refine r_ladd C (pc := 87) d_M_worthOf_87 ?_
        first | rw [lN_add] | rw [Int64.add_zero]
        refine r_lst8 C (pc := 88) rfl d_M_worthOf_88 ?_
        refine r_iinc10 C (pc := 90) rfl d_M_worthOf_90 ?_
        refine r_goto C (pc := 93) (tgt := 35) d_M_worthOf_93 (by decide) ?_
        refine r_weak ?_ (ih (j + 1) (by omega) (by omega))
        exact ⟨Or.inr rfl, Or.inr rfl, Or.inr rfl, Or.inr rfl, Or.inr rfl, Or.inr rfl, Or.inr rfl, Or.inr rfl, Or.inr (by rw [es, eh]; first | rw [if_pos c78] | rw [if_neg c78, Nat.add_zero]), Or.inr rfl, Or.inr rfl, Or.inl rfl, Or.inl rfl, trivial⟩
set_option maxRecDepth 20000 in
theorem c_M_worthOf (l : Launch) (E : zE) (M : zM) (S : zS) (hR : RM S M) (hO : ok S) (b : Nat) (hb : b < S.1 0) (y : Int) (hy : 0 ≤ y ∧ y ≤ 500) (hj : hJm S (psS S) (dA S (flS S)) M b) (k : Nat) (hk : k < 4) (a2 : ∀ t, t < 11 → M.2 33 t = lN (OD S b y t)) (a3 : M.2 0 40 = lN (allO S b y)) (a4 : M.2 0 39 = lN (held S b y)) : zK l sM E y_M_worthOf b_M_worthOf 13 (some .long) 2 43 [.ref (E.2.2 0), .int (iI (b : Int)), .int (iI (k : Int))] M (zPl (fun r M2 => r = lN (wor S b y k) ∧ M = M2)) := by
  refine zK.of "OldBeamsModel" rfl (by decide) (Nat.le_of_ble_eq_true rfl) ?_
  intro G hS hE hQ hL C
  subst hE
  subst hL
  show VJ G M 0 [some (.ref (G.2.1.2.2 0)), some (.int (iI (b : Int))), some (.int (iI (k : Int))), none, none, none, none, none, none, none, none, none, none] []
  have h12 := hO.n
  have hab := all_bnd hO hb y
  have hhl := held_le S b y
  have e0 := f_0all hO b y hk
  have e1 := f_0lost hO b y hk
  have hb1 := by1_all hO (b := b) y hk
  have hb2 := by1_lost hO (b := b) y hk
  have hwo := wor_ok hO (b := b) y hk
  rw [← e0, ← e1] at hwo
  have hfo : sN (fOc S b y k 1) 11 = sN (by1 S b y k) 11 := by rw [f_one]
  have hw1 := hwo
  have K1 : VJ G M 96 [some (.ref (zad G 0)), some (.int (iI (b : Int))), some (.int (iI (k : Int))), some (.long (lN (9 * co S (allO S b y) (lost S b y)) - lN (co S (sN (fOc S b y k 0) 11) (lsN S b (fOc S b y k 0))))), none, some (.int (iI 1)), some (.long (lN (sN (fOc S b y k 1) 11))), none, some (.long (lN (sN (hOc S b y k 1) 11))), none, none, none, none] [] := by
    refine r_lld3 C (pc := 96) d_M_worthOf_96 ?_
    refine r_ald0 C (pc := 97) d_M_worthOf_97 ?_
    refine r_lld6 C (pc := 98) d_M_worthOf_98 ?_
    refine r_lld8 C (pc := 100) d_M_worthOf_100 ?_
    refine call_M_least C (pc := 102) hS (c_M_least _ _ M S hR hO (sN (fOc S b y k 1) 11) (sN (hOc S b y k 1) 11) (by omega) (f_hle S b y k 1)) k_1036 (by decide) (Nat.le_of_ble_eq_true rfl) rfl d_M_worthOf_102 (kkL (fun r102 N102 h102 => ?_))
    obtain ⟨rfl, rfl⟩ := h102
    rw [f_lost]
    refine r_lsub C (pc := 105) d_M_worthOf_105 ?_
    refine r_lst3 C (pc := 106) rfl d_M_worthOf_106 ?_
    refine r_iinc5 C (pc := 107) rfl d_M_worthOf_107 ?_
    refine r_goto C (pc := 110) (tgt := 20) d_M_worthOf_110 (by decide) ?_
    refine r_ild5 C (pc := 20) d_M_worthOf_20 ?_
    refine r_iconst C (pc := 22) d_M_worthOf_22 ?_
    refine r_icmp_ge C (pc := 23) (tgt := 113) (by omega) (by omega) d_M_worthOf_23 (by decide) (fun c23 => ?_) (fun c23 => ?_)
    · refine r_lld3 C (pc := 113) d_M_worthOf_113 ?_
      exact r_lret C (pc := 114) hQ (⟨by rw [f_one, lN_sub (by omega), lN_sub (by omega)]; exact lN_e (by unfold wor; rw [← e0, ← e1]; omega), rfl⟩) d_M_worthOf_114
    · exact absurd c23 (by decide)
  have K0 : VJ G M 96 [some (.ref (zad G 0)), some (.int (iI (b : Int))), some (.int (iI (k : Int))), some (.long (lN (9 * co S (allO S b y) (lost S b y)))), none, some (.int (iI 0)), some (.long (lN (sN (fOc S b y k 0) 11))), none, some (.long (lN (sN (hOc S b y k 0) 11))), none, none, none, none] [] := by
    refine r_lld3 C (pc := 96) d_M_worthOf_96 ?_
    refine r_ald0 C (pc := 97) d_M_worthOf_97 ?_
    refine r_lld6 C (pc := 98) d_M_worthOf_98 ?_
    refine r_lld8 C (pc := 100) d_M_worthOf_100 ?_
    refine call_M_least C (pc := 102) hS (c_M_least _ _ M S hR hO (sN (fOc S b y k 0) 11) (sN (hOc S b y k 0) 11) (by omega) (f_hle S b y k 0)) k_1036 (by decide) (Nat.le_of_ble_eq_true rfl) rfl d_M_worthOf_102 (kkL (fun r102 N102 h102 => ?_))
    obtain ⟨rfl, rfl⟩ := h102
    rw [f_lost]
    refine r_lsub C (pc := 105) d_M_worthOf_105 ?_
    refine r_lst3 C (pc := 106) rfl d_M_worthOf_106 ?_
    refine r_iinc5 C (pc := 107) rfl d_M_worthOf_107 ?_
    refine r_goto C (pc := 110) (tgt := 20) d_M_worthOf_110 (by decide) ?_
    refine r_ild5 C (pc := 20) d_M_worthOf_20 ?_
    refine r_iconst C (pc := 22) d_M_worthOf_22 ?_
    refine r_icmp_ge C (pc := 23) (tgt := 113) (by omega) (by omega) d_M_worthOf_23 (by decide) (fun c23 => ?_) (fun c23 => ?_)
    · exact absurd c23 (by decide)
    · refine r_lconst C (pc := 26) (v := 0) rfl d_M_worthOf_26 ?_
      refine r_lst6 C (pc := 27) rfl d_M_worthOf_27 ?_
      refine r_lconst C (pc := 29) (v := 0) rfl d_M_worthOf_29 ?_
      refine r_lst8 C (pc := 30) rfl d_M_worthOf_30 ?_
      refine r_iconst C (pc := 32) d_M_worthOf_32 ?_
      refine r_ist10 C (pc := 33) rfl d_M_worthOf_33 ?_
      refine r_weak ?_ (l_M_worthOf_35 C hS M S hR hO b hb y hy hj k hk a2 a3 a4 1 (by decide) _ K1 hQ 12 0 (by omega) (by omega))
      exact ⟨Or.inr rfl, Or.inr rfl, Or.inr rfl, Or.inr rfl, Or.inr rfl, Or.inr rfl, Or.inr rfl, Or.inr rfl, Or.inr rfl, Or.inr rfl, Or.inr rfl, Or.inr rfl, Or.inr rfl, trivial⟩
  refine r_ldc2 C (pc := 0) k_923 d_M_worthOf_0 ?_
  refine r_ald0 C (pc := 3) d_M_worthOf_3 ?_
  refine r_ald0 C (pc := 4) d_M_worthOf_4 ?_
  refine gM_M_allSum C (pc := 5) hS k_676 d_M_worthOf_5 ?_
  rw [a3]
  refine r_ald0 C (pc := 8) d_M_worthOf_8 ?_
  refine gM_M_holdSum C (pc := 9) hS k_675 d_M_worthOf_9 ?_
  rw [a4]
  refine call_M_least C (pc := 12) hS (c_M_least _ _ M S hR hO (allO S b y) (held S b y) (by omega) hhl) k_1036 (by decide) (Nat.le_of_ble_eq_true rfl) rfl d_M_worthOf_12 (kkL (fun r12 N12 h12 => ?_))
  obtain ⟨rfl, rfl⟩ := h12
  rw [lost_eq]
  refine r_lmul C (pc := 15) d_M_worthOf_15 ?_
  rw [show (9 : Int64) = lN 9 from rfl, lN_mul]
  refine r_lst3 C (pc := 16) rfl d_M_worthOf_16 ?_
  refine r_iconst C (pc := 17) d_M_worthOf_17 ?_
  refine r_ist5 C (pc := 18) rfl d_M_worthOf_18 ?_
  refine r_ild5 C (pc := 20) d_M_worthOf_20 ?_
  refine r_iconst C (pc := 22) d_M_worthOf_22 ?_
  refine r_icmp_ge C (pc := 23) (tgt := 113) (by omega) (by omega) d_M_worthOf_23 (by decide) (fun c23 => ?_) (fun c23 => ?_)
  · exact absurd c23 (by decide)
  · refine r_lconst C (pc := 26) (v := 0) rfl d_M_worthOf_26 ?_
    refine r_lst6 C (pc := 27) rfl d_M_worthOf_27 ?_
    refine r_lconst C (pc := 29) (v := 0) rfl d_M_worthOf_29 ?_
    refine r_lst8 C (pc := 30) rfl d_M_worthOf_30 ?_
    refine r_iconst C (pc := 32) d_M_worthOf_32 ?_
    refine r_ist10 C (pc := 33) rfl d_M_worthOf_33 ?_
    refine r_weak ?_ (l_M_worthOf_35 C hS M S hR hO b hb y hy hj k hk a2 a3 a4 0 (by decide) _ K0 hQ 12 0 (by omega) (by omega))
    exact ⟨Or.inr rfl, Or.inr rfl, Or.inr rfl, Or.inr rfl, Or.inr rfl, Or.inr rfl, Or.inr rfl, Or.inr rfl, Or.inr rfl, Or.inr rfl, Or.inr rfl, Or.inl rfl, Or.inl rfl, trivial⟩
set_option maxRecDepth 20000 in
theorem c_M_worth (l : Launch) (E : zE) (M : zM) (S : zS) (hR : RM S M) (hO : ok S) (b k y z : Int) (hb : -2147483648 ≤ b ∧ b < 2147483648) (hk : -2147483648 ≤ k ∧ k < 2147483648) (hy : -2147483648 ≤ y ∧ y < 2147483648) (hz : z = 0 ∨ z = 1) : zK l sM E y_M_worth b_M_worth 6 (some .long) 5 114 [.ref (E.2.2 0), .int (iI b), .int (iI k), .int (iI y), .int (iI z)] M (zPl (fun r M2 => r = fWorth S b k y z ∧ RM S M2)) := by
  refine zK.of "OldBeamsModel" rfl (by decide) (Nat.le_of_ble_eq_true rfl) ?_
  intro G hS hE hQ hL C
  subst hE
  subst hL
  show VJ G M 0 [some (.ref (G.2.1.2.2 0)), some (.int (iI b)), some (.int (iI k)), some (.int (iI y)), some (.int (iI z)), none] []
  have h12 := hO.n
  have hbn : M.1 0 2 = (S.1 0 : Int) := hR.1.1
  refine r_ald0 C (pc := 0) d_M_worth_0 ?_
  refine r_ild1 C (pc := 1) d_M_worth_1 ?_
  refine call_M_isBeam C (pc := 2) hS (c_M_isBeam _ _ M S hR hO _ (by omega)) k_801 (by decide) (Nat.le_of_ble_eq_true rfl) rfl d_M_worth_2 (kkI (fun r2 N2 h2 => ?_))
  obtain ⟨rfl, rfl⟩ := h2
  refine r_ifeqB C (pc := 5) (tgt := 20) d_M_worth_5 (by decide) (fun c5 => ?_) (fun c5 => ?_)
  · refine r_ldc2 C (pc := 20) k_932 d_M_worth_20 ?_
    exact r_lret C (pc := 23) hQ (⟨by unfold fWorth; first | rw [if_pos (by omega)]; rfl | (by_cases q : 0 ≤ k ∧ k ≤ 3; (· rw [if_neg (fun w => w q), if_pos (by unfold rfS; rw [if_pos (by omega)]; decide)]; unfold rfS; rw [if_pos (by omega)]; rfl); rw [if_pos q]; rfl), hR⟩) d_M_worth_23
  · refine r_ild2 C (pc := 8) d_M_worth_8 ?_
    refine r_i2l C (pc := 9) (by omega) d_M_worth_9 ?_
    refine r_lconst C (pc := 10) (v := 0) rfl d_M_worth_10 ?_
    refine r_ldc2 C (pc := 11) k_776 d_M_worth_11 ?_
    refine call_M_in C (pc := 14) hS (c_M_in _ _ _ _ (0) (3) (by omega) (by omega) (by omega)) k_777 (by decide) (Nat.le_of_ble_eq_true rfl) rfl d_M_worth_14 (kkI (fun r14 N14 h14 => ?_))
    obtain ⟨rfl, rfl⟩ := h14
    refine r_ifneB C (pc := 17) (tgt := 24) d_M_worth_17 (by decide) (fun c17 => ?_) (fun c17 => ?_)
    · refine r_ald0 C (pc := 24) d_M_worth_24 ?_
      refine r_ild1 C (pc := 25) d_M_worth_25 ?_
      refine r_ild3 C (pc := 26) d_M_worth_26 ?_
      refine call_M_isYear C (pc := 27) hS (c_M_isYear _ _ _ _ (by omega)) k_791 (by decide) (Nat.le_of_ble_eq_true rfl) rfl d_M_worth_27 (kkI (fun r27 N27 h27 => ?_))
      obtain ⟨rfl, rfl⟩ := h27
      refine call_M_mayTell C (pc := 30) hS (c_M_mayTell _ _ M S hR hO b _ (by omega) (by first | exact zb_01 _ | decide)) k_878 (by decide) (Nat.le_of_ble_eq_true rfl) rfl d_M_worth_30 (kkI (fun r30 N30 h30 => ?_))
      obtain ⟨rfl, b1, bb⟩ := h30
      have er : rfS S b (zb (0 ≤ y ∧ y ≤ 500) = 1) = rfS S b (0 ≤ y ∧ y ≤ 500) := rfS_congr (zb_1 _)
      rw [er] at bb ⊢
      have hrr := rfS_rng S b (0 ≤ y ∧ y ≤ 500)
      refine r_ist5 C (pc := 33) rfl d_M_worth_33 ?_
      refine r_ild5 C (pc := 35) d_M_worth_35 ?_
      refine r_if_ge C (pc := 37) (tgt := 44) (by omega) d_M_worth_37 (by decide) (fun c37 => ?_) (fun c37 => ?_)
      · have hR2 := RMk hR hO b1
        have cc : rfS S b (0 ≤ y ∧ y ≤ 500) = 0 := by omega
        obtain ⟨b2, b4, b3⟩ := bb cc
        obtain ⟨⟨hb0, hb1⟩, hin, hdn⟩ := rfS_0 cc
        obtain ⟨b, rfl⟩ := Int.eq_ofNat_of_zero_le hb0
        rw [Int.toNat_natCast] at hdn
        have hb : b < S.1 0 := by omega
        refine r_ald0 C (pc := 44) d_M_worth_44 ?_
        refine r_ild1 C (pc := 45) d_M_worth_45 ?_
        refine r_ild3 C (pc := 46) d_M_worth_46 ?_
        refine call_M_layChance C (pc := 47) hS (c_M_layChance _ _ N30 S hR2 hO b hb y (by omega) (b3 b hb hdn)) k_980 (by decide) (Nat.le_of_ble_eq_true rfl) rfl d_M_worth_47 (kkV (fun N47 h47 => ?_))
        obtain ⟨a1, a2, a3, a4⟩ := h47
        have hR3 := RMk hR2 hO a1.k
        have hab := all_bnd hO hb y
        have hhl := held_le S b y
        refine r_ald0 C (pc := 50) d_M_worth_50 ?_
        refine r_ild1 C (pc := 51) d_M_worth_51 ?_
        refine r_ild2 C (pc := 52) d_M_worth_52 ?_
        rw [show k = ((k.toNat : Nat) : Int) by omega]
        refine call_M_worthOf C (pc := 53) hS (c_M_worthOf _ _ N47 S hR3 hO b hb y (by omega) (a1.j (b3 b hb hdn)) k.toNat (by omega) a2 a3 a4) k_1044 (by decide) (Nat.le_of_ble_eq_true rfl) rfl d_M_worth_53 (kkL (fun r53 N53 h53 => ?_))
        obtain ⟨rfl, rfl⟩ := h53
        have hwl := wor_le hO b y k.toNat
        refine r_ldc2 C (pc := 56) k_923 d_M_worth_56 ?_
        refine r_ald0 C (pc := 59) d_M_worth_59 ?_
        refine gM_M_allSum C (pc := 60) hS k_676 d_M_worth_60 ?_
        rw [a3]
        refine r_lmul C (pc := 63) d_M_worth_63 ?_
        rw [show (9 : Int64) = lN 9 from rfl, lN_mul]
        refine r_ild4 C (pc := 64) d_M_worth_64 ?_
        refine call_M_told C (pc := 66) hS (c_M_told _ _ _ (wor S b y k.toNat) (9 * allO S b y) (by omega) (by omega) (by omega) z hz) k_984 (by decide) (Nat.le_of_ble_eq_true rfl) rfl d_M_worth_66 (kkL (fun r66 N66 h66 => ?_))
        obtain ⟨rfl, rfl⟩ := h66
        exact r_lret C (pc := 69) hQ (⟨by unfold fWorth; rw [if_neg (show ¬ ¬ (0 ≤ k ∧ k ≤ 3) by omega), if_neg (by omega), Int.toNat_natCast], hR3⟩) d_M_worth_69
      · refine r_ild5 C (pc := 40) d_M_worth_40 ?_
        refine r_i2l C (pc := 42) (by omega) d_M_worth_42 ?_
        exact r_lret C (pc := 43) hQ (⟨by unfold fWorth; rw [if_neg (by omega), if_pos (by omega)], RMk hR hO b1⟩) d_M_worth_43
    · refine r_ldc2 C (pc := 20) k_932 d_M_worth_20 ?_
      exact r_lret C (pc := 23) hQ (⟨by unfold fWorth; first | rw [if_pos (by omega)]; rfl | (by_cases q : 0 ≤ k ∧ k ≤ 3; (· rw [if_neg (fun w => w q), if_pos (by unfold rfS; rw [if_pos (by omega)]; decide)]; unfold rfS; rw [if_pos (by omega)]; rfl); rw [if_pos q]; rfl), hR⟩) d_M_worth_23
