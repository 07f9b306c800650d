def wkA (S : zS) (y : Int) (w : Int) : Nat := if w = -900009 then 0 else held S w.toNat y
def wkB (S : zS) (y : Int) (w : Int) : Nat := if w = -900009 then 1 else allO S w.toNat y
theorem wkA_n (S : zS) (y : Int) (j : Nat) : wkA S y (j : Int) = held S j y := by
  unfold wkA
  rw [if_neg (by omega), Int.toNat_natCast]
theorem wkB_n (S : zS) (y : Int) (j : Nat) : wkB S y (j : Int) = allO S j y := by
  unfold wkB
  rw [if_neg (by omega), Int.toNat_natCast]
set_option maxRecDepth 20000 in
theorem l_M_weakest_25 {G : zG} (C : zC G b_M_weakest "OldBeamsModel" (some .int) 8 4 99) (hS : G.1 = sM) (M : zM) (S : zS) (hR : RM S M) (hO : ok S) (y : Int) (hy : 0 ≤ y ∧ y ≤ 500) (N0 : zM) (hR2 : RM S N0) (b2 : ∀ b, b < S.1 0 → N0.1 22 b = zb (dA S (flS S) b = true)) (b3 : ∀ b, b < S.1 0 → dA S (flS S) b = false → hJm S (psS S) (dA S (flS S)) N0 b) (hQ : G.2.2.1 = zPi (fun r M2 => r = fWeak S y ∧ RM S M2)) : ∀ (n : Nat) (j : Nat) (N : zM), (j ≤ S.1 0) → (kO N0 N) → (S.1 0 - j < n) → VJ G N 25 [some (.ref (zad G 0)), some (.int (iI y)), some (.int (iI (wkN S y j))), some (.long (lN (wkA S y (wkN S y j)))), none, some (.long (lN (wkB S y (wkN S y j)))), none, some (.int (iI (j : Int)))] [] := by
  intro n
  induction n with
  | zero =>
    intro j N hjn g1 hn
    exact absurd hn (by omega)
  | succ n ih =>
    intro j N hjn g1 hn
    have h12 := hO.n
    have hRN := RMk hR2 hO g1.k
    have hwr := wkN_rng S y j
    have es := wkN_succ S y j
    refine r_ild7 C (pc := 25) d_M_weakest_25 ?_
    refine r_ald0 C (pc := 27) d_M_weakest_27 ?_
    refine gM_M_beams C (pc := 28) hS k_638 d_M_weakest_28 ?_
    rw [hRN.1.1]
    refine r_icmp_ge C (pc := 31) (tgt := 94) (by omega) (by omega) d_M_weakest_31 (by decide) (fun c31 => ?_) (fun c31 => ?_)
    · refine r_ild2 C (pc := 94) d_M_weakest_94 ?_
      exact r_iret C (pc := 95) hQ (⟨by unfold fWeak; rw [if_neg (show ¬ ¬ (0 ≤ y ∧ y ≤ 500) by omega), show S.1 0 = j by omega], hRN⟩) d_M_weakest_95
    · refine r_ald0 C (pc := 34) d_M_weakest_34 ?_
      refine gM_M_isDown C (pc := 35) hS k_660 d_M_weakest_35 ?_
      refine r_ild7 C (pc := 38) d_M_weakest_38 ?_
      refine M_baldN C (pc := 40) hS (j) (by omega) rfl (by decide) (by omega) (by decide) d_M_weakest_40 ?_
      rw [g1.1 22 j (by omega), b2 j (by omega)]
      refine r_ifneB C (pc := 41) (tgt := 88) d_M_weakest_41 (by decide) (fun c41 => ?_) (fun c41 => ?_)
      · rw [if_pos c41] at es
        refine r_iinc7 C (pc := 88) rfl d_M_weakest_88 ?_
        refine r_goto C (pc := 91) (tgt := 25) d_M_weakest_91 (by decide) ?_
        refine r_weak ?_ (ih (j + 1) N (by omega) g1 (by omega))
        exact ⟨Or.inr rfl, Or.inr rfl, Or.inr (by rw [es]), Or.inr (by rw [es]), Or.inr rfl, Or.inr (by rw [es]), Or.inr rfl, Or.inr rfl, trivial⟩
      · have hdn : dA S (flS S) j = false := Bool.eq_false_iff.mpr c41
        rw [if_neg c41] at es
        have hb : j < S.1 0 := by omega
        refine r_ald0 C (pc := 44) d_M_weakest_44 ?_
        refine r_ild7 C (pc := 45) d_M_weakest_45 ?_
        refine r_ild1 C (pc := 47) d_M_weakest_47 ?_
        refine call_M_layChance C (pc := 48) hS (c_M_layChance _ _ N S hRN hO j hb y hy (g1.j (b3 j hb hdn))) k_980 (by decide) (Nat.le_of_ble_eq_true rfl) rfl d_M_weakest_48 (kkV (fun N48 h48 => ?_))
        obtain ⟨a1, a2, a3, a4⟩ := h48
        have hR3 := RMk hRN hO a1.k
        have hab := all_bnd hO hb y
        have hhl := held_le S j y
        refine r_ild2 C (pc := 51) d_M_weakest_51 ?_
        refine r_ldc C (pc := 52) (z := (-900009)) k_796 rfl d_M_weakest_52 ?_
        refine r_icmp_eq C (pc := 54) (tgt := 74) (by omega) (by omega) d_M_weakest_54 (by decide) (fun c54 => ?_) (fun c54 => ?_)
        · rw [if_pos (Or.inl c54)] at es
          refine r_ild7 C (pc := 74) d_M_weakest_74 ?_
          refine r_ist2 C (pc := 76) rfl d_M_weakest_76 ?_
          refine r_ald0 C (pc := 77) d_M_weakest_77 ?_
          refine gM_M_holdSum C (pc := 78) hS k_675 d_M_weakest_78 ?_
          rw [a4]
          refine r_lst3 C (pc := 81) rfl d_M_weakest_81 ?_
          refine r_ald0 C (pc := 82) d_M_weakest_82 ?_
          refine gM_M_allSum C (pc := 83) hS k_676 d_M_weakest_83 ?_
          rw [a3]
          refine r_lst5 C (pc := 86) rfl d_M_weakest_86 ?_
          refine r_iinc7 C (pc := 88) rfl d_M_weakest_88 ?_
          refine r_goto C (pc := 91) (tgt := 25) d_M_weakest_91 (by decide) ?_
          refine r_weak ?_ (ih (j + 1) _ (by omega) (g1.tr a1) (by omega))
          exact ⟨Or.inr rfl, Or.inr rfl, Or.inr (by rw [es]), Or.inr (by rw [es, wkA_n]), Or.inr rfl, Or.inr (by rw [es, wkB_n]), Or.inr rfl, Or.inr rfl, trivial⟩
        · have hbw := all_bnd hO (b := (wkN S y j).toNat) (by omega) y
          have hhw := held_le S (wkN S y j).toNat y
          have eA : wkA S y (wkN S y j) = held S (wkN S y j).toNat y := by unfold wkA; rw [if_neg c54]
          have eB : wkB S y (wkN S y j) = allO S (wkN S y j).toNat y := by unfold wkB; rw [if_neg c54]
          refine r_lld3 C (pc := 57) d_M_weakest_57 ?_
          refine r_lld5 C (pc := 58) d_M_weakest_58 ?_
          refine r_ald0 C (pc := 60) d_M_weakest_60 ?_
          refine gM_M_holdSum C (pc := 61) hS k_675 d_M_weakest_61 ?_
          rw [a4]
          refine r_ald0 C (pc := 64) d_M_weakest_64 ?_
          refine gM_M_allSum C (pc := 65) hS k_676 d_M_weakest_65 ?_
          rw [a3]
          refine call_M_isAbove C (pc := 68) hS (c_M_isAbove _ _ _ (wkA S y (wkN S y j)) (wkB S y (wkN S y j)) (held S j y) (allO S j y) (by omega) (by omega) (by omega) (by omega) (by omega) hab.1) k_991 (by decide) (Nat.le_of_ble_eq_true rfl) rfl d_M_weakest_68 (kkI (fun r68 N68 h68 => ?_))
          obtain ⟨rfl, rfl⟩ := h68
          rw [eA, eB]
          refine r_ifeqB C (pc := 71) (tgt := 88) d_M_weakest_71 (by decide) (fun c71 => ?_) (fun c71 => ?_)
          · rw [if_neg (fun q => q.elim c54 c71)] at es
            refine r_iinc7 C (pc := 88) rfl d_M_weakest_88 ?_
            refine r_goto C (pc := 91) (tgt := 25) d_M_weakest_91 (by decide) ?_
            refine r_weak ?_ (ih (j + 1) _ (by omega) (g1.tr a1) (by omega))
            exact ⟨Or.inr rfl, Or.inr rfl, Or.inr (by rw [es]), Or.inr (by rw [es]; first | rfl | rw [eA]), Or.inr rfl, Or.inr (by rw [es]; first | rfl | rw [eB]), Or.inr rfl, Or.inr rfl, trivial⟩
          · rw [if_pos (Or.inr c71)] at es
            refine r_ild7 C (pc := 74) d_M_weakest_74 ?_
            refine r_ist2 C (pc := 76) rfl d_M_weakest_76 ?_
            refine r_ald0 C (pc := 77) d_M_weakest_77 ?_
            refine gM_M_holdSum C (pc := 78) hS k_675 d_M_weakest_78 ?_
            rw [a4]
            refine r_lst3 C (pc := 81) rfl d_M_weakest_81 ?_
            refine r_ald0 C (pc := 82) d_M_weakest_82 ?_
            refine gM_M_allSum C (pc := 83) hS k_676 d_M_weakest_83 ?_
            rw [a3]
            refine r_lst5 C (pc := 86) rfl d_M_weakest_86 ?_
            refine r_iinc7 C (pc := 88) rfl d_M_weakest_88 ?_
            refine r_goto C (pc := 91) (tgt := 25) d_M_weakest_91 (by decide) ?_
            refine r_weak ?_ (ih (j + 1) _ (by omega) (g1.tr a1) (by omega))
            exact ⟨Or.inr rfl, Or.inr rfl, Or.inr (by rw [es]), Or.inr (by rw [es, wkA_n]), Or.inr rfl, Or.inr (by rw [es, wkB_n]), Or.inr rfl, Or.inr rfl, trivial⟩
set_option maxRecDepth 20000 in
theorem c_M_weakest (l : Launch) (E : zE) (M : zM) (S : zS) (hR : RM S M) (hO : ok S) (y : Int) (hy : -2147483648 ≤ y ∧ y < 2147483648) : zK l sM E y_M_weakest b_M_weakest 8 (some .int) 4 99 [.ref (E.2.2 0), .int (iI y)] M (zPi (fun r M2 => r = fWeak S y ∧ RM S M2)) := by
  refine zK.of "OldBeamsModel" rfl (by decide) (Nat.le_of_ble_eq_true rfl) ?_
  intro G hS hE hQ hL C
  subst hE
  subst hL
  show VJ G M 0 [some (.ref (G.2.1.2.2 0)), some (.int (iI y)), none, none, none, none, none, none] []
  have h12 := hO.n
  have hbn : M.1 0 2 = (S.1 0 : Int) := hR.1.1
  refine r_ild1 C (pc := 0) d_M_weakest_0 ?_
  refine call_M_isYear C (pc := 1) hS (c_M_isYear _ _ _ _ (by omega)) k_791 (by decide) (Nat.le_of_ble_eq_true rfl) rfl d_M_weakest_1 (kkI (fun r1 N1 h1 => ?_))
  obtain ⟨rfl, rfl⟩ := h1
  refine r_ifneB C (pc := 4) (tgt := 10) d_M_weakest_4 (by decide) (fun c4 => ?_) (fun c4 => ?_)
  · refine r_ald0 C (pc := 10) d_M_weakest_10 ?_
    refine call_M_layNow C (pc := 11) hS (c_M_layNow _ _ M S hR hO) k_810 (by decide) (Nat.le_of_ble_eq_true rfl) rfl d_M_weakest_11 (kkV (fun N11 h11 => ?_))
    obtain ⟨b1, b2, b4, b3⟩ := h11
    have hR2 := RMk hR hO b1
    refine r_ldc C (pc := 14) (z := (-900009)) k_796 rfl d_M_weakest_14 ?_
    refine r_ist2 C (pc := 16) rfl d_M_weakest_16 ?_
    refine r_lconst C (pc := 17) (v := 0) rfl d_M_weakest_17 ?_
    refine r_lst3 C (pc := 18) rfl d_M_weakest_18 ?_
    refine r_lconst C (pc := 19) (v := 1) rfl d_M_weakest_19 ?_
    refine r_lst5 C (pc := 20) rfl d_M_weakest_20 ?_
    refine r_iconst C (pc := 22) d_M_weakest_22 ?_
    refine r_ist7 C (pc := 23) rfl d_M_weakest_23 ?_
    refine r_weak ?_ (l_M_weakest_25 C hS M S hR hO y (by omega) N11 hR2 b2 b3 hQ (S.1 0 + 1) 0 N11 (by omega) (kO.rf _) (by omega))
    exact ⟨Or.inr rfl, Or.inr rfl, Or.inr rfl, Or.inr rfl, Or.inr rfl, Or.inr rfl, Or.inr rfl, Or.inr rfl, trivial⟩
  · refine r_ldc C (pc := 7) (z := (-900002)) k_784 rfl d_M_weakest_7 ?_
    exact r_iret C (pc := 9) hQ (⟨by unfold fWeak; rw [if_pos (by omega)], hR⟩) d_M_weakest_9
set_option maxRecDepth 20000 in
theorem l_M_bestLook_25 {G : zG} (C : zC G b_M_bestLook "OldBeamsModel" (some .int) 11 4 99) (hS : G.1 = sM) (M : zM) (S : zS) (hR : RM S M) (hO : ok S) (y : Int) (hy : 0 ≤ y ∧ y ≤ 500) (N0 : zM) (hR2 : RM S N0) (b2 : ∀ b, b < S.1 0 → N0.1 22 b = zb (dA S (flS S) b = true)) (b3 : ∀ b, b < S.1 0 → dA S (flS S) b = false → hJm S (psS S) (dA S (flS S)) N0 b) (hQ : G.2.2.1 = zPi (fun r M2 => r = fBest S y ∧ RM S M2)) : ∀ (n : Nat) (c : Nat) (N : zM), (c ≤ 4 * S.1 0) → (kO N0 N) → (4 * S.1 0 - c < n) → VJ G N 25 [some (.ref (zad G 0)), some (.int (iI y)), some (.int (iI (blA (blN S y c)))), some (.long (lN (bfA S y (blN S y c)))), none, some (.long (lN (bfB S y (blN S y c)))), none, some (.int (iI (c : Int))), none, none, none] [] := by
  intro n
  induction n with
  | zero =>
    intro c N hc g1 hn
    exact absurd hn (by omega)
  | succ n ih =>
    intro c N hc g1 hn
    have h12 := hO.n
    have hRN := RMk hR2 hO g1.k
    have hwr := blN_rng S y c
    refine r_ild7 C (pc := 25) d_M_bestLook_25 ?_
    refine r_iconst C (pc := 27) d_M_bestLook_27 ?_
    refine r_ald0 C (pc := 28) d_M_bestLook_28 ?_
    refine gM_M_beams C (pc := 29) hS k_638 d_M_bestLook_29 ?_
    rw [hRN.1.1]
    refine r_imul C (pc := 32) d_M_bestLook_32 ?_
    refine r_icmp_ge C (pc := 33) (tgt := 127) (by omega) (by omega) d_M_bestLook_33 (by decide) (fun c33 => ?_) (fun c33 => ?_)
    · refine r_ild2 C (pc := 127) d_M_bestLook_127 ?_
      exact r_iret C (pc := 128) hQ (⟨by unfold fBest; rw [if_neg (show ¬ ¬ (0 ≤ y ∧ y ≤ 500) by omega), show 4 * S.1 0 = c by omega], hRN⟩) d_M_bestLook_128
    · refine r_ild7 C (pc := 36) d_M_bestLook_36 ?_
      refine r_iconst C (pc := 38) d_M_bestLook_38 ?_
      refine r_idiv C (pc := 39) (by omega) (by omega) d_M_bestLook_39 ?_
      refine r_topZ (b := ((c / 4 : Nat) : Int)) (by omega) ?_
      have hb : c / 4 < S.1 0 := by omega
      have hbb := bf_bnd hO y (c := blN S y c) (by omega)
      refine r_ist8 C (pc := 40) rfl d_M_bestLook_40 ?_
      refine r_ald0 C (pc := 42) d_M_bestLook_42 ?_
      refine gM_M_isDown C (pc := 43) hS k_660 d_M_bestLook_43 ?_
      refine r_ild8 C (pc := 46) d_M_bestLook_46 ?_
      refine M_baldN C (pc := 48) hS (c / 4) (by omega) rfl (by decide) (by omega) (by decide) d_M_bestLook_48 ?_
      rw [g1.1 22 _ (by omega), b2 _ hb]
      refine r_ifneB C (pc := 49) (tgt := 121) d_M_bestLook_49 (by decide) (fun c49 => ?_) (fun c49 => ?_)
      · have es : blN S y (c + 1) = blN S y c := by rw [blN_succ, if_pos c49]
        refine r_iinc7 C (pc := 121) rfl d_M_bestLook_121 ?_
        refine r_goto C (pc := 124) (tgt := 25) d_M_bestLook_124 (by decide) ?_
        refine r_weak ?_ (ih (c + 1) N (by omega) g1 (by omega))
        exact ⟨Or.inr rfl, Or.inr rfl, Or.inr (by rw [es]), Or.inr (by rw [es]), Or.inr rfl, Or.inr (by rw [es]), Or.inr rfl, Or.inr rfl, Or.inl rfl, Or.inl rfl, Or.inl rfl, trivial⟩
      · have hdn : dA S (flS S) (c / 4) = false := Bool.eq_false_iff.mpr c49
        have eu := blN_up S y (c := c) hdn
        refine r_ald0 C (pc := 52) d_M_bestLook_52 ?_
        refine r_ild8 C (pc := 53) d_M_bestLook_53 ?_
        refine r_ild1 C (pc := 55) d_M_bestLook_55 ?_
        refine call_M_layChance C (pc := 56) hS (c_M_layChance _ _ N S hRN hO (c / 4) hb y hy (g1.j (b3 _ hb hdn))) k_980 (by decide) (Nat.le_of_ble_eq_true rfl) rfl d_M_bestLook_56 (kkV (fun N56 h56 => ?_))
        obtain ⟨a1, a2, a3, a4⟩ := h56
        have hR3 := RMk hRN hO a1.k
        have hab := all_bnd hO hb y
        refine r_ald0 C (pc := 59) d_M_bestLook_59 ?_
        refine r_ild8 C (pc := 60) d_M_bestLook_60 ?_
        refine r_ild7 C (pc := 62) d_M_bestLook_62 ?_
        refine r_iconst C (pc := 64) d_M_bestLook_64 ?_
        refine r_irem C (pc := 65) (by omega) (by omega) d_M_bestLook_65 ?_
        refine r_topZ (b := ((c % 4 : Nat) : Int)) (by omega) ?_
        refine call_M_worthOf C (pc := 66) hS (c_M_worthOf _ _ N56 S hR3 hO (c / 4) hb y hy ((g1.tr a1).j (b3 _ hb hdn)) (c % 4) (by omega) a2 a3 a4) k_1044 (by decide) (Nat.le_of_ble_eq_true rfl) rfl d_M_bestLook_66 (kkL (fun r66 N66 h66 => ?_))
        obtain ⟨rfl, rfl⟩ := h66
        have hwl := wor_le hO (c / 4) y (c % 4)
        refine r_lst9 C (pc := 69) rfl d_M_bestLook_69 ?_
        refine r_lld9 C (pc := 71) d_M_bestLook_71 ?_
        refine r_lconst C (pc := 73) (v := 0) rfl d_M_bestLook_73 ?_
        refine r_lcmp_le C (pc := 74) (tgt := 121) d_M_bestLook_74 d_M_bestLook_75 (by decide) (fun c74 => ?_) (fun c74 => ?_)
        · have w0 := (pk_lLE (a := wor S (c / 4) y (c % 4)) (b := 0) (by omega) (by decide)).mp c74
          have es : blN S y (c + 1) = blN S y c := by rw [eu, show wor S (c / 4) y (c % 4) = 0 by omega, Nat.zero_mul, if_neg (by omega)]
          refine r_iinc7 C (pc := 121) rfl d_M_bestLook_121 ?_
          refine r_goto C (pc := 124) (tgt := 25) d_M_bestLook_124 (by decide) ?_
          refine r_weak ?_ (ih (c + 1) _ (by omega) (g1.tr a1) (by omega))
          exact ⟨Or.inr rfl, Or.inr rfl, Or.inr (by rw [es]), Or.inr (by rw [es]), Or.inr rfl, Or.inr (by rw [es]), Or.inr rfl, Or.inr rfl, Or.inl rfl, Or.inl rfl, Or.inl rfl, trivial⟩
        · refine r_lld9 C (pc := 78) d_M_bestLook_78 ?_
          refine r_ldc2 C (pc := 80) k_923 d_M_bestLook_80 ?_
          refine r_ald0 C (pc := 83) d_M_bestLook_83 ?_
          refine gM_M_allSum C (pc := 84) hS k_676 d_M_bestLook_84 ?_
          rw [a3]
          refine r_lmul C (pc := 87) d_M_bestLook_87 ?_
          rw [show (9 : Int64) = lN 9 from rfl, lN_mul]
          refine r_lld3 C (pc := 88) d_M_bestLook_88 ?_
          refine r_lld5 C (pc := 89) d_M_bestLook_89 ?_
          refine call_M_isAbove C (pc := 91) hS (c_M_isAbove _ _ _ (wor S (c / 4) y (c % 4)) (9 * allO S (c / 4) y) (bfA S y (blN S y c)) (bfB S y (blN S y c)) (by omega) (by omega) (by omega) (by omega) (by omega) (by omega)) k_991 (by decide) (Nat.le_of_ble_eq_true rfl) rfl d_M_bestLook_91 (kkI (fun r91 N91 h91 => ?_))
          obtain ⟨rfl, rfl⟩ := h91
          refine r_ifeqB C (pc := 94) (tgt := 121) d_M_bestLook_94 (by decide) (fun c94 => ?_) (fun c94 => ?_)
          · have es : blN S y (c + 1) = blN S y c := by rw [eu, if_neg c94]
            refine r_iinc7 C (pc := 121) rfl d_M_bestLook_121 ?_
            refine r_goto C (pc := 124) (tgt := 25) d_M_bestLook_124 (by decide) ?_
            refine r_weak ?_ (ih (c + 1) _ (by omega) (g1.tr a1) (by omega))
            exact ⟨Or.inr rfl, Or.inr rfl, Or.inr (by rw [es]), Or.inr (by rw [es]), Or.inr rfl, Or.inr (by rw [es]), Or.inr rfl, Or.inr rfl, Or.inl rfl, Or.inl rfl, Or.inl rfl, trivial⟩
          · have es : blN S y (c + 1) = (c : Int) := by rw [eu, if_pos c94]
            have eA : blA (blN S y (c + 1)) = 10 * ((c / 4 : Nat) : Int) + ((c % 4 : Nat) : Int) := by rw [es]; have := blA_n (c / 4) (c % 4) (by omega); rw [show 4 * (c / 4) + c % 4 = c by omega] at this; exact this
            have eF : bfA S y (blN S y (c + 1)) = wor S (c / 4) y (c % 4) := by rw [es, bfA_n]
            have eG : bfB S y (blN S y (c + 1)) = 9 * allO S (c / 4) y := by rw [es, bfB_n]
            refine r_bipush C (pc := 97) (n := 10) rfl d_M_bestLook_97 ?_
            refine r_ild8 C (pc := 99) d_M_bestLook_99 ?_
            refine r_imul C (pc := 101) d_M_bestLook_101 ?_
            refine r_ild7 C (pc := 102) d_M_bestLook_102 ?_
            refine r_iconst C (pc := 104) d_M_bestLook_104 ?_
            refine r_irem C (pc := 105) (by omega) (by omega) d_M_bestLook_105 ?_
            refine r_topZ (b := ((c % 4 : Nat) : Int)) (by omega) ?_
            refine r_iadd C (pc := 106) d_M_bestLook_106 ?_
            refine r_ist2 C (pc := 107) rfl d_M_bestLook_107 ?_
            refine r_lld9 C (pc := 108) d_M_bestLook_108 ?_
            refine r_lst3 C (pc := 110) rfl d_M_bestLook_110 ?_
            refine r_ldc2 C (pc := 111) k_923 d_M_bestLook_111 ?_
            refine r_ald0 C (pc := 114) d_M_bestLook_114 ?_
            refine gM_M_allSum C (pc := 115) hS k_676 d_M_bestLook_115 ?_
            rw [a3]
            refine r_lmul C (pc := 118) d_M_bestLook_118 ?_
            rw [show (9 : Int64) = lN 9 from rfl, lN_mul]
            refine r_lst5 C (pc := 119) rfl d_M_bestLook_119 ?_
            refine r_iinc7 C (pc := 121) rfl d_M_bestLook_121 ?_
            refine r_goto C (pc := 124) (tgt := 25) d_M_bestLook_124 (by decide) ?_
            refine r_weak ?_ (ih (c + 1) _ (by omega) (g1.tr a1) (by omega))
            exact ⟨Or.inr rfl, Or.inr rfl, Or.inr (by rw [eA]), Or.inr (by rw [eF]), Or.inr rfl, Or.inr (by rw [eG]), Or.inr rfl, Or.inr rfl, Or.inl rfl, Or.inl rfl, Or.inl rfl, trivial⟩
set_option maxRecDepth 20000 in
theorem c_M_bestLook (l : Launch) (E : zE) (M : zM) (S : zS) (hR : RM S M) (hO : ok S) (y : Int) (hy : -2147483648 ≤ y ∧ y < 2147483648) : zK l sM E y_M_bestLook b_M_bestLook 11 (some .int) 4 99 [.ref (E.2.2 0), .int (iI y)] M (zPi (fun r M2 => r = fBest S y ∧ RM S M2)) := by
  refine zK.of "OldBeamsModel" rfl (by decide) (Nat.le_of_ble_eq_true rfl) ?_
  intro G hS hE hQ hL C
  subst hE
  subst hL
  show VJ G M 0 [some (.ref (G.2.1.2.2 0)), some (.int (iI y)), none, none, none, none, none, none, none, none, none] []
  have h12 := hO.n
  have hbn : M.1 0 2 = (S.1 0 : Int) := hR.1.1
  refine r_ild1 C (pc := 0) d_M_bestLook_0 ?_
  refine call_M_isYear C (pc := 1) hS (c_M_isYear _ _ _ _ (by omega)) k_791 (by decide) (Nat.le_of_ble_eq_true rfl) rfl d_M_bestLook_1 (kkI (fun r1 N1 h1 => ?_))
  obtain ⟨rfl, rfl⟩ := h1
  refine r_ifneB C (pc := 4) (tgt := 10) d_M_bestLook_4 (by decide) (fun c4 => ?_) (fun c4 => ?_)
  · refine r_ald0 C (pc := 10) d_M_bestLook_10 ?_
    refine call_M_layNow C (pc := 11) hS (c_M_layNow _ _ M S hR hO) k_810 (by decide) (Nat.le_of_ble_eq_true rfl) rfl d_M_bestLook_11 (kkV (fun N11 h11 => ?_))
    obtain ⟨b1, b2, b4, b3⟩ := h11
    have hR2 := RMk hR hO b1
    refine r_ldc C (pc := 14) (z := (-900009)) k_796 rfl d_M_bestLook_14 ?_
    refine r_ist2 C (pc := 16) rfl d_M_bestLook_16 ?_
    refine r_lconst C (pc := 17) (v := 0) rfl d_M_bestLook_17 ?_
    refine r_lst3 C (pc := 18) rfl d_M_bestLook_18 ?_
    refine r_lconst C (pc := 19) (v := 1) rfl d_M_bestLook_19 ?_
    refine r_lst5 C (pc := 20) rfl d_M_bestLook_20 ?_
    refine r_iconst C (pc := 22) d_M_bestLook_22 ?_
    refine r_ist7 C (pc := 23) rfl d_M_bestLook_23 ?_
    refine r_weak ?_ (l_M_bestLook_25 C hS M S hR hO y (by omega) N11 hR2 b2 b3 hQ (4 * S.1 0 + 1) 0 N11 (by omega) (kO.rf _) (by omega))
    exact ⟨Or.inr rfl, Or.inr rfl, Or.inr rfl, Or.inr rfl, Or.inr rfl, Or.inr rfl, Or.inr rfl, Or.inr rfl, Or.inl rfl, Or.inl rfl, Or.inl rfl, trivial⟩
  · refine r_ldc C (pc := 7) (z := (-900002)) k_784 rfl d_M_bestLook_7 ?_
    exact r_iret C (pc := 9) hQ (⟨by unfold fBest; rw [if_pos (by omega)], hR⟩) d_M_bestLook_9
set_option maxRecDepth 20000 in
theorem c_M_push (l : Launch) (E : zE) (M : zM) (S : zS) (hR : RM S M) (hO : ok S) (b s : Int) (hb : -2147483648 ≤ b ∧ b < 2147483648) (hs : -2147483648 ≤ s ∧ s < 2147483648) : zK l sM E y_M_push b_M_push 4 (some .long) 5 114 [.ref (E.2.2 0), .int (iI b), .int (iI s)] M (zPl (fun r M2 => r = fPush S b s ∧ RM S M2)) := by
  refine zK.of "OldBeamsModel" rfl (by decide) (Nat.le_of_ble_eq_true rfl) ?_
  intro G hS hE hQ hL C
  subst hE
  subst hL
  show VJ G M 0 [some (.ref (G.2.1.2.2 0)), some (.int (iI b)), some (.int (iI s)), none] []
  have h12 := hO.n
  have hbn : M.1 0 2 = (S.1 0 : Int) := hR.1.1
  refine r_ald0 C (pc := 0) d_M_push_0 ?_
  refine r_ild1 C (pc := 1) d_M_push_1 ?_
  refine r_ild2 C (pc := 2) d_M_push_2 ?_
  refine r_i2l C (pc := 3) (by omega) d_M_push_3 ?_
  refine r_lconst C (pc := 4) (v := 0) rfl d_M_push_4 ?_
  refine r_lconst C (pc := 5) (v := 1) rfl d_M_push_5 ?_
  refine call_M_in C (pc := 6) hS (c_M_in _ _ _ _ (0) (1) (by omega) (by omega) (by omega)) k_777 (by decide) (Nat.le_of_ble_eq_true rfl) rfl d_M_push_6 (kkI (fun r6 N6 h6 => ?_))
  obtain ⟨rfl, rfl⟩ := h6
  refine call_M_mayTell C (pc := 9) hS (c_M_mayTell _ _ M S hR hO b _ (by omega) (by first | exact zb_01 _ | decide)) k_878 (by decide) (Nat.le_of_ble_eq_true rfl) rfl d_M_push_9 (kkI (fun r9 N9 h9 => ?_))
  obtain ⟨rfl, b1, bb⟩ := h9
  have er : rfS S b (zb (0 ≤ s ∧ s ≤ 1) = 1) = rfS S b (0 ≤ s ∧ s ≤ 1) := rfS_congr (zb_1 _)
  rw [er] at bb ⊢
  have hrr := rfS_rng S b (0 ≤ s ∧ s ≤ 1)
  refine r_ist3 C (pc := 12) rfl d_M_push_12 ?_
  refine r_ild3 C (pc := 13) d_M_push_13 ?_
  refine r_if_ge C (pc := 14) (tgt := 22) (by omega) d_M_push_14 (by decide) (fun c14 => ?_) (fun c14 => ?_)
  · have hR2 := RMk hR hO b1
    have cc : rfS S b (0 ≤ s ∧ s ≤ 1) = 0 := by omega
    obtain ⟨b2, b4, b3⟩ := bb cc
    obtain ⟨⟨hb0, hb1⟩, hin, hdn⟩ := rfS_0 cc
    obtain ⟨b, rfl⟩ := Int.eq_ofNat_of_zero_le hb0
    rw [Int.toNat_natCast] at hdn
    have hb : b < S.1 0 := by omega
    refine r_ald0 C (pc := 22) d_M_push_22 ?_
    refine gM_M_push C (pc := 23) hS k_662 d_M_push_23 ?_
    refine r_iconst C (pc := 26) d_M_push_26 ?_
    refine r_ild1 C (pc := 27) d_M_push_27 ?_
    refine r_imul C (pc := 28) d_M_push_28 ?_
    refine r_ild2 C (pc := 29) d_M_push_29 ?_
    refine r_iadd C (pc := 30) d_M_push_30 ?_
    refine M_laldN C (pc := 31) hS (2 * b + s.toNat) (by omega) rfl (by decide) (by omega) (by decide) d_M_push_31 ?_
    exact r_lret C (pc := 32) hQ (⟨by first | (unfold fPush; rw [if_pos (by omega)]) | (unfold fPush; rw [if_neg (by omega), Int.toNat_natCast]; rcases (show s = 0 ∨ s = 1 by omega) with rfl | rfl; (· rw [if_pos rfl]; exact (b3 b hb hdn).1); rw [if_neg (by decide)]; exact (b3 b hb hdn).2.1), RMk hR hO b1⟩) d_M_push_32
  · refine r_ild3 C (pc := 17) d_M_push_17 ?_
    refine r_i2l C (pc := 18) (by omega) d_M_push_18 ?_
    refine r_goto C (pc := 19) (tgt := 32) d_M_push_19 (by decide) ?_
    exact r_lret C (pc := 32) hQ (⟨by first | (unfold fPush; rw [if_pos (by omega)]) | (unfold fPush; rw [if_neg (by omega), Int.toNat_natCast]; rcases (show s = 0 ∨ s = 1 by omega) with rfl | rfl; (· rw [if_pos rfl]; exact (b3 b hb hdn).1); rw [if_neg (by decide)]; exact (b3 b hb hdn).2.1), RMk hR hO b1⟩) d_M_push_32
theorem bdP {S : zS} {b p : Int} : rfS S b (zb ((0 ≤ b ∧ b < (S.1 0 : Int)) ∧ 0 ≤ p ∧ p ≤ S.2 2 b.toNat 1) = 1) = rfS S b (0 ≤ p ∧ p ≤ S.2 2 b.toNat 1) := by
  by_cases q : 0 ≤ b ∧ b < (S.1 0 : Int)
  · exact rfS_congr ((zb_1 _).trans ⟨fun z => z.2, fun z => ⟨q, z⟩⟩)
  · unfold rfS; rw [if_pos q, if_pos q]
set_option maxRecDepth 20000 in
theorem c_M_bending (l : Launch) (E : zE) (M : zM) (S : zS) (hR : RM S M) (hO : ok S) (b p : Int) (hb : -2147483648 ≤ b ∧ b < 2147483648) (hp : -2147483648 ≤ p ∧ p < 2147483648) : zK l sM E y_M_bending b_M_bending 4 (some .long) 5 114 [.ref (E.2.2 0), .int (iI b), .int (iI p)] M (zPl (fun r M2 => r = fBend S b p ∧ RM S M2)) := by
  refine zK.of "OldBeamsModel" rfl (by decide) (Nat.le_of_ble_eq_true rfl) ?_
  intro G hS hE hQ hL C
  subst hE
  subst hL
  show VJ G M 0 [some (.ref (G.2.1.2.2 0)), some (.int (iI b)), some (.int (iI p)), none] []
  have h12 := hO.n
  have hbn : M.1 0 2 = (S.1 0 : Int) := hR.1.1
  refine r_ald0 C (pc := 0) d_M_bending_0 ?_
  refine r_ild1 C (pc := 1) d_M_bending_1 ?_
  refine r_ald0 C (pc := 2) d_M_bending_2 ?_
  refine r_ild1 C (pc := 3) d_M_bending_3 ?_
  refine call_M_isBeam C (pc := 4) hS (c_M_isBeam _ _ M S hR hO _ (by omega)) k_801 (by decide) (Nat.le_of_ble_eq_true rfl) rfl d_M_bending_4 (kkI (fun r4 N4 h4 => ?_))
  obtain ⟨rfl, rfl⟩ := h4
  refine r_ifeqB C (pc := 7) (tgt := 30) d_M_bending_7 (by decide) (fun c7 => ?_) (fun c7 => ?_)
  · refine r_iconst C (pc := 30) d_M_bending_30 ?_
    refine r_topZ (b := zb ((0 ≤ b ∧ b < (S.1 0 : Int)) ∧ 0 ≤ p ∧ p ≤ S.2 2 b.toNat 1)) (zb_of0 (fun q => by first | exact c7 q.1 | exact c23 q.2)) ?_
    refine call_M_mayTell C (pc := 31) hS (c_M_mayTell _ _ M S hR hO b _ (by omega) (zb_01 _)) k_878 (by decide) (Nat.le_of_ble_eq_true rfl) rfl d_M_bending_31 (kkI (fun r31 N31 h31 => ?_))
    obtain ⟨rfl, b1, bb⟩ := h31
    rw [bdP] at bb ⊢
    have hrr := rfS_rng S b (0 ≤ p ∧ p ≤ S.2 2 b.toNat 1)
    refine r_ist3 C (pc := 34) rfl d_M_bending_34 ?_
    refine r_ild3 C (pc := 35) d_M_bending_35 ?_
    refine r_if_ge C (pc := 36) (tgt := 44) (by omega) d_M_bending_36 (by decide) (fun c36 => ?_) (fun c36 => ?_)
    · have hR2 := RMk hR hO b1
      have cc : rfS S b (0 ≤ p ∧ p ≤ S.2 2 b.toNat 1) = 0 := by omega
      obtain ⟨b2, b4, b3⟩ := bb cc
      obtain ⟨⟨hb0, hb1⟩, hin, hdn⟩ := rfS_0 cc
      obtain ⟨b, rfl⟩ := Int.eq_ofNat_of_zero_le hb0
      rw [Int.toNat_natCast] at hdn
      have hb : b < S.1 0 := by omega
      rw [Int.toNat_natCast] at hin
      obtain ⟨p, rfl⟩ := Int.eq_ofNat_of_zero_le hin.1
      have hbo := (hO.2.2.1 b hb).2.1
      refine r_ald0 C (pc := 44) d_M_bending_44 ?_
      refine r_ild1 C (pc := 45) d_M_bending_45 ?_
      refine r_ild2 C (pc := 46) d_M_bending_46 ?_
      refine call_M_bendingOf C (pc := 47) hS (c_M_bendingOf _ _ N31 S hR2 hO b hb _ (fun x hx => b4 b (by omega) x hx) p (by omega)) k_837 (by decide) (Nat.le_of_ble_eq_true rfl) rfl d_M_bending_47 (kkL (fun r47 N47 h47 => ?_))
      obtain ⟨rfl, rfl⟩ := h47
      exact r_lret C (pc := 50) hQ (⟨by first | (unfold fBend; rw [if_neg (by omega), Int.toNat_natCast, Int.toNat_natCast, (b3 b hb hdn).1, (b3 b hb hdn).2.1]; done) | (unfold fBend; rw [if_pos (by omega)]), RMk hR hO b1⟩) d_M_bending_50
    · refine r_ild3 C (pc := 39) d_M_bending_39 ?_
      refine r_i2l C (pc := 40) (by omega) d_M_bending_40 ?_
      refine r_goto C (pc := 41) (tgt := 50) d_M_bending_41 (by decide) ?_
      exact r_lret C (pc := 50) hQ (⟨by first | (unfold fBend; rw [if_neg (by omega), Int.toNat_natCast, Int.toNat_natCast, (b3 b hb hdn).1, (b3 b hb hdn).2.1]; done) | (unfold fBend; rw [if_pos (by omega)]), RMk hR hO b1⟩) d_M_bending_50
  · have hlr := (hR.2.2.1 b.toNat (by omega)).1.2.1
    have hlo := (hO.2.2.1 b.toNat (by omega)).2.1
    refine r_ild2 C (pc := 10) d_M_bending_10 ?_
    refine r_i2l C (pc := 11) (by omega) d_M_bending_11 ?_
    refine r_lconst C (pc := 12) (v := 0) rfl d_M_bending_12 ?_
    refine r_ald0 C (pc := 13) d_M_bending_13 ?_
    refine gM_M_length C (pc := 14) hS k_640 d_M_bending_14 ?_
    refine r_ild1 C (pc := 17) d_M_bending_17 ?_
    refine M_ialdN C (pc := 18) hS (b.toNat) (by omega) rfl (by decide) (by omega) (by decide) d_M_bending_18 ?_
    rw [hlr]
    refine r_i2l C (pc := 19) (by omega) d_M_bending_19 ?_
    refine call_M_in C (pc := 20) hS (c_M_in _ _ _ _ (0) _ (by omega) (by omega) (by omega)) k_777 (by decide) (Nat.le_of_ble_eq_true rfl) rfl d_M_bending_20 (kkI (fun r20 N20 h20 => ?_))
    obtain ⟨rfl, rfl⟩ := h20
    refine r_ifeqB C (pc := 23) (tgt := 30) d_M_bending_23 (by decide) (fun c23 => ?_) (fun c23 => ?_)
    · refine r_iconst C (pc := 30) d_M_bending_30 ?_
      refine r_topZ (b := zb ((0 ≤ b ∧ b < (S.1 0 : Int)) ∧ 0 ≤ p ∧ p ≤ S.2 2 b.toNat 1)) (zb_of0 (fun q => by first | exact c7 q.1 | exact c23 q.2)) ?_
      refine call_M_mayTell C (pc := 31) hS (c_M_mayTell _ _ M S hR hO b _ (by omega) (zb_01 _)) k_878 (by decide) (Nat.le_of_ble_eq_true rfl) rfl d_M_bending_31 (kkI (fun r31 N31 h31 => ?_))
      obtain ⟨rfl, b1, bb⟩ := h31
      rw [bdP] at bb ⊢
      have hrr := rfS_rng S b (0 ≤ p ∧ p ≤ S.2 2 b.toNat 1)
      refine r_ist3 C (pc := 34) rfl d_M_bending_34 ?_
      refine r_ild3 C (pc := 35) d_M_bending_35 ?_
      refine r_if_ge C (pc := 36) (tgt := 44) (by omega) d_M_bending_36 (by decide) (fun c36 => ?_) (fun c36 => ?_)
      · have hR2 := RMk hR hO b1
        have cc : rfS S b (0 ≤ p ∧ p ≤ S.2 2 b.toNat 1) = 0 := by omega
        obtain ⟨b2, b4, b3⟩ := bb cc
        obtain ⟨⟨hb0, hb1⟩, hin, hdn⟩ := rfS_0 cc
        obtain ⟨b, rfl⟩ := Int.eq_ofNat_of_zero_le hb0
        rw [Int.toNat_natCast] at hdn
        have hb : b < S.1 0 := by omega
        rw [Int.toNat_natCast] at hin
        obtain ⟨p, rfl⟩ := Int.eq_ofNat_of_zero_le hin.1
        have hbo := (hO.2.2.1 b hb).2.1
        refine r_ald0 C (pc := 44) d_M_bending_44 ?_
        refine r_ild1 C (pc := 45) d_M_bending_45 ?_
        refine r_ild2 C (pc := 46) d_M_bending_46 ?_
        refine call_M_bendingOf C (pc := 47) hS (c_M_bendingOf _ _ N31 S hR2 hO b hb _ (fun x hx => b4 b (by omega) x hx) p (by omega)) k_837 (by decide) (Nat.le_of_ble_eq_true rfl) rfl d_M_bending_47 (kkL (fun r47 N47 h47 => ?_))
        obtain ⟨rfl, rfl⟩ := h47
        exact r_lret C (pc := 50) hQ (⟨by first | (unfold fBend; rw [if_neg (by omega), Int.toNat_natCast, Int.toNat_natCast, (b3 b hb hdn).1, (b3 b hb hdn).2.1]; done) | (unfold fBend; rw [if_pos (by omega)]), RMk hR hO b1⟩) d_M_bending_50
      · refine r_ild3 C (pc := 39) d_M_bending_39 ?_
        refine r_i2l C (pc := 40) (by omega) d_M_bending_40 ?_
        refine r_goto C (pc := 41) (tgt := 50) d_M_bending_41 (by decide) ?_
        exact r_lret C (pc := 50) hQ (⟨by first | (unfold fBend; rw [if_neg (by omega), Int.toNat_natCast, Int.toNat_natCast, (b3 b hb hdn).1, (b3 b hb hdn).2.1]; done) | (unfold fBend; rw [if_pos (by omega)]), RMk hR hO b1⟩) d_M_bending_50
    · refine r_iconst C (pc := 26) d_M_bending_26 ?_
      refine r_goto C (pc := 27) (tgt := 31) d_M_bending_27 (by decide) ?_
      refine r_topZ (b := zb ((0 ≤ b ∧ b < (S.1 0 : Int)) ∧ 0 ≤ p ∧ p ≤ S.2 2 b.toNat 1)) (zb_of1 ⟨c7, c23⟩) ?_
      refine call_M_mayTell C (pc := 31) hS (c_M_mayTell _ _ M S hR hO b _ (by omega) (zb_01 _)) k_878 (by decide) (Nat.le_of_ble_eq_true rfl) rfl d_M_bending_31 (kkI (fun r31 N31 h31 => ?_))
      obtain ⟨rfl, b1, bb⟩ := h31
      rw [bdP] at bb ⊢
      have hrr := rfS_rng S b (0 ≤ p ∧ p ≤ S.2 2 b.toNat 1)
      refine r_ist3 C (pc := 34) rfl d_M_bending_34 ?_
      refine r_ild3 C (pc := 35) d_M_bending_35 ?_
      refine r_if_ge C (pc := 36) (tgt := 44) (by omega) d_M_bending_36 (by decide) (fun c36 => ?_) (fun c36 => ?_)
      · have hR2 := RMk hR hO b1
        have cc : rfS S b (0 ≤ p ∧ p ≤ S.2 2 b.toNat 1) = 0 := by omega
        obtain ⟨b2, b4, b3⟩ := bb cc
        obtain ⟨⟨hb0, hb1⟩, hin, hdn⟩ := rfS_0 cc
        obtain ⟨b, rfl⟩ := Int.eq_ofNat_of_zero_le hb0
        rw [Int.toNat_natCast] at hdn
        have hb : b < S.1 0 := by omega
        rw [Int.toNat_natCast] at hin
        obtain ⟨p, rfl⟩ := Int.eq_ofNat_of_zero_le hin.1
        have hbo := (hO.2.2.1 b hb).2.1
        refine r_ald0 C (pc := 44) d_M_bending_44 ?_
        refine r_ild1 C (pc := 45) d_M_bending_45 ?_
        refine r_ild2 C (pc := 46) d_M_bending_46 ?_
        refine call_M_bendingOf C (pc := 47) hS (c_M_bendingOf _ _ N31 S hR2 hO b hb _ (fun x hx => b4 b (by omega) x hx) p (by omega)) k_837 (by decide) (Nat.le_of_ble_eq_true rfl) rfl d_M_bending_47 (kkL (fun r47 N47 h47 => ?_))
        obtain ⟨rfl, rfl⟩ := h47
        exact r_lret C (pc := 50) hQ (⟨by first | (unfold fBend; rw [if_neg (by omega), Int.toNat_natCast, Int.toNat_natCast, (b3 b hb hdn).1, (b3 b hb hdn).2.1]; done) | (unfold fBend; rw [if_pos (by omega)]), RMk hR hO b1⟩) d_M_bending_50
      · refine r_ild3 C (pc := 39) d_M_bending_39 ?_
        refine r_i2l C (pc := 40) (by omega) d_M_bending_40 ?_
        refine r_goto C (pc := 41) (tgt := 50) d_M_bending_41 (by decide) ?_
        exact r_lret C (pc := 50) hQ (⟨by first | (unfold fBend; rw [if_neg (by omega), Int.toNat_natCast, Int.toNat_natCast, (b3 b hb hdn).1, (b3 b hb hdn).2.1]; done) | (unfold fBend; rw [if_pos (by omega)]), RMk hR hO b1⟩) d_M_bending_50
set_option maxRecDepth 20000 in
theorem c_M_greatest (l : Launch) (E : zE) (M : zM) (S : zS) (hR : RM S M) (hO : ok S) (b z : Int) (hb : -2147483648 ≤ b ∧ b < 2147483648) (hz : z = 0 ∨ z = 1) : zK l sM E y_M_greatest b_M_greatest 4 (some .long) 5 114 [.ref (E.2.2 0), .int (iI b), .int (iI z)] M (zPl (fun r M2 => r = fGreat S b z ∧ RM S M2)) := by
  refine zK.of "OldBeamsModel" rfl (by decide) (Nat.le_of_ble_eq_true rfl) ?_
  intro G hS hE hQ hL C
  subst hE
  subst hL
  show VJ G M 0 [some (.ref (G.2.1.2.2 0)), some (.int (iI b)), some (.int (iI z)), none] []
  have h12 := hO.n
  have hbn : M.1 0 2 = (S.1 0 : Int) := hR.1.1
  refine r_ald0 C (pc := 0) d_M_greatest_0 ?_
  refine r_ild1 C (pc := 1) d_M_greatest_1 ?_
  refine r_iconst C (pc := 2) d_M_greatest_2 ?_
  refine call_M_mayTell C (pc := 3) hS (c_M_mayTell _ _ M S hR hO b 1 (by omega) (by first | exact zb_01 _ | decide)) k_878 (by decide) (Nat.le_of_ble_eq_true rfl) rfl d_M_greatest_3 (kkI (fun r3 N3 h3 => ?_))
  obtain ⟨rfl, b1, bb⟩ := h3
  have er : rfS S b ((1 : Int) = 1) = rfS S b (True) := rfS_congr ⟨fun _ => trivial, fun _ => rfl⟩
  rw [er] at bb ⊢
  have hrr := rfS_rng S b (True)
  refine r_ist3 C (pc := 6) rfl d_M_greatest_6 ?_
  refine r_ild3 C (pc := 7) d_M_greatest_7 ?_
  refine r_if_ge C (pc := 8) (tgt := 16) (by omega) d_M_greatest_8 (by decide) (fun c8 => ?_) (fun c8 => ?_)
  · have hR2 := RMk hR hO b1
    have cc : rfS S b (True) = 0 := by omega
    obtain ⟨b2, b4, b3⟩ := bb cc
    obtain ⟨⟨hb0, hb1⟩, hin, hdn⟩ := rfS_0 cc
    obtain ⟨b, rfl⟩ := Int.eq_ofNat_of_zero_le hb0
    rw [Int.toNat_natCast] at hdn
    have hb : b < S.1 0 := by omega
    have hgl := grN_le (bd S (FB S (psS S) (dA S (flS S)) b b) (P0 S (psS S) (dA S (flS S)) b) (P1 S (psS S) (dA S (flS S)) b) b) ((S.2 2 b 1).toNat + 1)
    have hbl := (hO.2.2.1 b hb).2.1
    rw [show grN (bd S (FB S (psS S) (dA S (flS S)) b b) (P0 S (psS S) (dA S (flS S)) b) (P1 S (psS S) (dA S (flS S)) b) b) ((S.2 2 b 1).toNat + 1) = GR S (psS S) (dA S (flS S)) b from rfl] at hgl
    refine r_ild2 C (pc := 16) d_M_greatest_16 ?_
    refine r_if_eq C (pc := 17) (tgt := 30) (by omega) d_M_greatest_17 (by decide) (fun c17 => ?_) (fun c17 => ?_)
    · refine r_ald0 C (pc := 30) d_M_greatest_30 ?_
      refine gM_M_great C (pc := 31) hS k_663 d_M_greatest_31 ?_
      refine r_ild1 C (pc := 34) d_M_greatest_34 ?_
      refine M_laldN C (pc := 35) hS (b) (by omega) rfl (by decide) (by omega) (by decide) d_M_greatest_35 ?_
      rw [(b3 b hb hdn).2.2.1]
      exact r_lret C (pc := 36) hQ (⟨by first | (unfold fGreat; rw [if_pos (by omega)]) | (unfold fGreat; rw [if_neg (by omega), Int.toNat_natCast]; first | rw [if_pos c17] | rw [if_neg c17]), RMk hR hO b1⟩) d_M_greatest_36
    · refine r_ald0 C (pc := 20) d_M_greatest_20 ?_
      refine gM_M_greatPlace C (pc := 21) hS k_664 d_M_greatest_21 ?_
      refine r_ild1 C (pc := 24) d_M_greatest_24 ?_
      refine M_ialdN C (pc := 25) hS (b) (by omega) rfl (by decide) (by omega) (by decide) d_M_greatest_25 ?_
      rw [(b3 b hb hdn).2.2.2]
      refine r_i2l C (pc := 26) (by omega) d_M_greatest_26 ?_
      refine r_goto C (pc := 27) (tgt := 36) d_M_greatest_27 (by decide) ?_
      exact r_lret C (pc := 36) hQ (⟨by first | (unfold fGreat; rw [if_pos (by omega)]) | (unfold fGreat; rw [if_neg (by omega), Int.toNat_natCast]; first | rw [if_pos c17] | rw [if_neg c17]), RMk hR hO b1⟩) d_M_greatest_36
  · refine r_ild3 C (pc := 11) d_M_greatest_11 ?_
    refine r_i2l C (pc := 12) (by omega) d_M_greatest_12 ?_
    refine r_goto C (pc := 13) (tgt := 36) d_M_greatest_13 (by decide) ?_
    exact r_lret C (pc := 36) hQ (⟨by first | (unfold fGreat; rw [if_pos (by omega)]) | (unfold fGreat; rw [if_neg (by omega), Int.toNat_natCast]; first | rw [if_pos c17] | rw [if_neg c17]), RMk hR hO b1⟩) d_M_greatest_36
set_option maxRecDepth 20000 in
theorem c_M_lifts (l : Launch) (E : zE) (M : zM) (S : zS) (hR : RM S M) (hO : ok S) (b : Int) (hb : -2147483648 ≤ b ∧ b < 2147483648) : zK l sM E y_M_lifts b_M_lifts 3 (some .int) 5 114 [.ref (E.2.2 0), .int (iI b)] M (zPi (fun r M2 => r = fLifts S b ∧ RM S M2)) := by
  refine zK.of "OldBeamsModel" rfl (by decide) (Nat.le_of_ble_eq_true rfl) ?_
  intro G hS hE hQ hL C
  subst hE
  subst hL
  show VJ G M 0 [some (.ref (G.2.1.2.2 0)), some (.int (iI b)), none] []
  have h12 := hO.n
  have hbn : M.1 0 2 = (S.1 0 : Int) := hR.1.1
  refine r_ald0 C (pc := 0) d_M_lifts_0 ?_
  refine r_ild1 C (pc := 1) d_M_lifts_1 ?_
  refine r_iconst C (pc := 2) d_M_lifts_2 ?_
  refine call_M_mayTell C (pc := 3) hS (c_M_mayTell _ _ M S hR hO b 1 (by omega) (by first | exact zb_01 _ | decide)) k_878 (by decide) (Nat.le_of_ble_eq_true rfl) rfl d_M_lifts_3 (kkI (fun r3 N3 h3 => ?_))
  obtain ⟨rfl, b1, bb⟩ := h3
  have er : rfS S b ((1 : Int) = 1) = rfS S b (True) := rfS_congr ⟨fun _ => trivial, fun _ => rfl⟩
  rw [er] at bb ⊢
  have hrr := rfS_rng S b (True)
  refine r_ist2 C (pc := 6) rfl d_M_lifts_6 ?_
  refine r_ild2 C (pc := 7) d_M_lifts_7 ?_
  refine r_if_ge C (pc := 8) (tgt := 15) (by omega) d_M_lifts_8 (by decide) (fun c8 => ?_) (fun c8 => ?_)
  · have hR2 := RMk hR hO b1
    have cc : rfS S b (True) = 0 := by omega
    obtain ⟨b2, b4, b3⟩ := bb cc
    obtain ⟨⟨hb0, hb1⟩, hin, hdn⟩ := rfS_0 cc
    obtain ⟨b, rfl⟩ := Int.eq_ofNat_of_zero_le hb0
    rw [Int.toNat_natCast] at hdn
    have hb : b < S.1 0 := by omega
    refine r_ald0 C (pc := 15) d_M_lifts_15 ?_
    refine r_ild1 C (pc := 16) d_M_lifts_16 ?_
    refine call_M_isLifting C (pc := 17) hS (c_M_isLifting _ _ _ b (by omega)) k_894 (by decide) (Nat.le_of_ble_eq_true rfl) rfl d_M_lifts_17 (kkI (fun r17 N17 h17 => ?_))
    obtain ⟨rfl, rfl⟩ := h17
    rw [(b3 b hb hdn).1, (b3 b hb hdn).2.1]
    refine r_ifeqB C (pc := 20) (tgt := 27) d_M_lifts_20 (by decide) (fun c20 => ?_) (fun c20 => ?_)
    · refine r_iconst C (pc := 27) d_M_lifts_27 ?_
      exact r_iret C (pc := 28) hQ (⟨by first | (unfold fLifts; rw [if_pos (by omega)]) | (unfold fLifts; rw [if_neg (by omega), Int.toNat_natCast]; first | exact zb_of1 c20 | exact zb_of0 c20), RMk hR hO b1⟩) d_M_lifts_28
    · refine r_iconst C (pc := 23) d_M_lifts_23 ?_
      refine r_goto C (pc := 24) (tgt := 28) d_M_lifts_24 (by decide) ?_
      exact r_iret C (pc := 28) hQ (⟨by first | (unfold fLifts; rw [if_pos (by omega)]) | (unfold fLifts; rw [if_neg (by omega), Int.toNat_natCast]; first | exact zb_of1 c20 | exact zb_of0 c20), RMk hR hO b1⟩) d_M_lifts_28
  · refine r_ild2 C (pc := 11) d_M_lifts_11 ?_
    refine r_goto C (pc := 12) (tgt := 28) d_M_lifts_12 (by decide) ?_
    exact r_iret C (pc := 28) hQ (⟨by first | (unfold fLifts; rw [if_pos (by omega)]) | (unfold fLifts; rw [if_neg (by omega), Int.toNat_natCast]; first | exact zb_of1 c20 | exact zb_of0 c20), RMk hR hO b1⟩) d_M_lifts_28
set_option maxRecDepth 20000 in
theorem c_M_holds (l : Launch) (E : zE) (M : zM) (S : zS) (hR : RM S M) (hO : ok S) (b t : Int) (hb : -2147483648 ≤ b ∧ b < 2147483648) (ht : -2147483648 ≤ t ∧ t < 2147483648) : zK l sM E y_M_holds b_M_holds 4 (some .int) 5 114 [.ref (E.2.2 0), .int (iI b), .int (iI t)] M (zPi (fun r M2 => r = fHolds S b t ∧ RM S M2)) := by
  refine zK.of "OldBeamsModel" rfl (by decide) (Nat.le_of_ble_eq_true rfl) ?_
  intro G hS hE hQ hL C
  subst hE
  subst hL
  show VJ G M 0 [some (.ref (G.2.1.2.2 0)), some (.int (iI b)), some (.int (iI t)), none] []
  have h12 := hO.n
  have hbn : M.1 0 2 = (S.1 0 : Int) := hR.1.1
  refine r_ald0 C (pc := 0) d_M_holds_0 ?_
  refine r_ild1 C (pc := 1) d_M_holds_1 ?_
  refine r_ild2 C (pc := 2) d_M_holds_2 ?_
  refine r_i2l C (pc := 3) (by omega) d_M_holds_3 ?_
  refine r_lconst C (pc := 4) (v := 0) rfl d_M_holds_4 ?_
  refine r_ldc2 C (pc := 5) k_783 d_M_holds_5 ?_
  refine call_M_in C (pc := 8) hS (c_M_in _ _ _ _ (0) (10) (by omega) (by omega) (by omega)) k_777 (by decide) (Nat.le_of_ble_eq_true rfl) rfl d_M_holds_8 (kkI (fun r8 N8 h8 => ?_))
  obtain ⟨rfl, rfl⟩ := h8
  refine call_M_mayTell C (pc := 11) hS (c_M_mayTell _ _ M S hR hO b _ (by omega) (by first | exact zb_01 _ | decide)) k_878 (by decide) (Nat.le_of_ble_eq_true rfl) rfl d_M_holds_11 (kkI (fun r11 N11 h11 => ?_))
  obtain ⟨rfl, b1, bb⟩ := h11
  have er : rfS S b (zb (0 ≤ t ∧ t ≤ 10) = 1) = rfS S b (0 ≤ t ∧ t ≤ 10) := rfS_congr (zb_1 _)
  rw [er] at bb ⊢
  have hrr := rfS_rng S b (0 ≤ t ∧ t ≤ 10)
  refine r_ist3 C (pc := 14) rfl d_M_holds_14 ?_
  refine r_ild3 C (pc := 15) d_M_holds_15 ?_
  refine r_if_ge C (pc := 16) (tgt := 23) (by omega) d_M_holds_16 (by decide) (fun c16 => ?_) (fun c16 => ?_)
  · have hR2 := RMk hR hO b1
    have cc : rfS S b (0 ≤ t ∧ t ≤ 10) = 0 := by omega
    obtain ⟨b2, b4, b3⟩ := bb cc
    obtain ⟨⟨hb0, hb1⟩, hin, hdn⟩ := rfS_0 cc
    obtain ⟨b, rfl⟩ := Int.eq_ofNat_of_zero_le hb0
    rw [Int.toNat_natCast] at hdn
    have hb : b < S.1 0 := by omega
    refine r_ald0 C (pc := 23) d_M_holds_23 ?_
    refine r_ild1 C (pc := 24) d_M_holds_24 ?_
    refine r_ild2 C (pc := 25) d_M_holds_25 ?_
    refine call_M_isHolding C (pc := 26) hS (c_M_isHolding _ _ N11 S hR2 hO b hb (dA S (flS S)) (psS S) (b3 b hb hdn) t (by omega)) k_902 (by decide) (Nat.le_of_ble_eq_true rfl) rfl d_M_holds_26 (kkI (fun r26 N26 h26 => ?_))
    obtain ⟨rfl, rfl⟩ := h26
    refine r_ifeqB C (pc := 29) (tgt := 36) d_M_holds_29 (by decide) (fun c29 => ?_) (fun c29 => ?_)
    · refine r_iconst C (pc := 36) d_M_holds_36 ?_
      exact r_iret C (pc := 37) hQ (⟨by first | (unfold fHolds; rw [if_pos (by omega)]) | (unfold fHolds; rw [if_neg (by omega), Int.toNat_natCast]; first | exact zb_of1 c29 | exact zb_of0 c29), RMk hR hO b1⟩) d_M_holds_37
    · refine r_iconst C (pc := 32) d_M_holds_32 ?_
      refine r_goto C (pc := 33) (tgt := 37) d_M_holds_33 (by decide) ?_
      exact r_iret C (pc := 37) hQ (⟨by first | (unfold fHolds; rw [if_pos (by omega)]) | (unfold fHolds; rw [if_neg (by omega), Int.toNat_natCast]; first | exact zb_of1 c29 | exact zb_of0 c29), RMk hR hO b1⟩) d_M_holds_37
  · refine r_ild3 C (pc := 19) d_M_holds_19 ?_
    refine r_goto C (pc := 20) (tgt := 37) d_M_holds_20 (by decide) ?_
    exact r_iret C (pc := 37) hQ (⟨by first | (unfold fHolds; rw [if_pos (by omega)]) | (unfold fHolds; rw [if_neg (by omega), Int.toNat_natCast]; first | exact zb_of1 c29 | exact zb_of0 c29), RMk hR hO b1⟩) d_M_holds_37
set_option maxRecDepth 20000 in
theorem l_M_needs_15 {G : zG} (C : zC G b_M_needs "OldBeamsModel" (some .int) 4 5 114) (hS : G.1 = sM) (M : zM) (S : zS) (hR : RM S M) (hO : ok S) (b : Nat) (hb : b < S.1 0) (N : zM) (hR2 : RM S N) (hj : hJm S (psS S) (dA S (flS S)) N b) (c8 : rfS S (b : Int) True = 0) (hQ : G.2.2.1 = zPi (fun r M2 => r = fNeeds S (b : Int) ∧ RM S M2)) : ∀ (n : Nat) (j : Nat), (j ≤ 11) → (∀ t, t < j → hoB S (psS S) (dA S (flS S)) b (t : Int) = false) → (11 - j < n) → VJ G N 15 [some (.ref (zad G 0)), some (.int (iI (b : Int))), none, some (.int (iI (j : Int)))] [] := by
  intro n
  induction n with
  | zero =>
    intro j hjn hp hn
    exact absurd hn (by omega)
  | succ n ih =>
    intro j hjn hp hn
    refine r_ild3 C (pc := 15) d_M_needs_15 ?_
    refine r_bipush C (pc := 16) (n := 11) rfl d_M_needs_16 ?_
    refine r_icmp_ge C (pc := 18) (tgt := 38) (by omega) (by omega) d_M_needs_18 (by decide) (fun c18 => ?_) (fun c18 => ?_)
    · refine r_ldc C (pc := 38) (z := (-900009)) k_796 rfl d_M_needs_38 ?_
      exact r_iret C (pc := 40) hQ (⟨by unfold fNeeds; rw [if_neg (fun q => q c8), Int.toNat_natCast, fsN_none (p := fun t => hoB S (psS S) (dA S (flS S)) b (t : Int)) 11 (fun t ht => hp t (by omega)), if_neg (by omega)], hR2⟩) d_M_needs_40
    · refine r_ald0 C (pc := 21) d_M_needs_21 ?_
      refine r_ild1 C (pc := 22) d_M_needs_22 ?_
      refine r_ild3 C (pc := 23) d_M_needs_23 ?_
      refine call_M_isHolding C (pc := 24) hS (c_M_isHolding _ _ N S hR2 hO b hb (dA S (flS S)) (psS S) hj (j : Int) (by omega)) k_902 (by decide) (Nat.le_of_ble_eq_true rfl) rfl d_M_needs_24 (kkI (fun r24 N24 h24 => ?_))
      obtain ⟨rfl, rfl⟩ := h24
      refine r_ifeqB C (pc := 27) (tgt := 32) d_M_needs_27 (by decide) (fun c27 => ?_) (fun c27 => ?_)
      · refine r_iinc3 C (pc := 32) rfl d_M_needs_32 ?_
        refine r_goto C (pc := 35) (tgt := 15) d_M_needs_35 (by decide) ?_
        exact ih (j + 1) (by omega) (fun t ht => by
          rcases Nat.lt_or_ge t j with w | w
          · exact hp t w
          · rw [show t = j by omega]; exact Bool.eq_false_iff.mpr c27) (by omega)
      · refine r_ild3 C (pc := 30) d_M_needs_30 ?_
        exact r_iret C (pc := 31) hQ (⟨by unfold fNeeds; rw [if_neg (fun q => q c8), Int.toNat_natCast, fsN_at (p := fun t => hoB S (psS S) (dA S (flS S)) b (t : Int)) c27 hp 11 (by omega), if_pos (by omega)], hR2⟩) d_M_needs_31
set_option maxRecDepth 20000 in
theorem c_M_needs (l : Launch) (E : zE) (M : zM) (S : zS) (hR : RM S M) (hO : ok S) (b : Int) (hb : -2147483648 ≤ b ∧ b < 2147483648) : zK l sM E y_M_needs b_M_needs 4 (some .int) 5 114 [.ref (E.2.2 0), .int (iI b)] M (zPi (fun r M2 => r = fNeeds S b ∧ RM S M2)) := by
  refine zK.of "OldBeamsModel" rfl (by decide) (Nat.le_of_ble_eq_true rfl) ?_
  intro G hS hE hQ hL C
  subst hE
  subst hL
  show VJ G M 0 [some (.ref (G.2.1.2.2 0)), some (.int (iI b)), none, none] []
  have h12 := hO.n
  have hbn : M.1 0 2 = (S.1 0 : Int) := hR.1.1
  refine r_ald0 C (pc := 0) d_M_needs_0 ?_
  refine r_ild1 C (pc := 1) d_M_needs_1 ?_
  refine r_iconst C (pc := 2) d_M_needs_2 ?_
  refine call_M_mayTell C (pc := 3) hS (c_M_mayTell _ _ M S hR hO b 1 (by omega) (by first | exact zb_01 _ | decide)) k_878 (by decide) (Nat.le_of_ble_eq_true rfl) rfl d_M_needs_3 (kkI (fun r3 N3 h3 => ?_))
  obtain ⟨rfl, b1, bb⟩ := h3
  have er : rfS S b ((1 : Int) = 1) = rfS S b (True) := rfS_congr ⟨fun _ => trivial, fun _ => rfl⟩
  rw [er] at bb ⊢
  have hrr := rfS_rng S b (True)
  refine r_ist2 C (pc := 6) rfl d_M_needs_6 ?_
  refine r_ild2 C (pc := 7) d_M_needs_7 ?_
  refine r_if_ge C (pc := 8) (tgt := 13) (by omega) d_M_needs_8 (by decide) (fun c8 => ?_) (fun c8 => ?_)
  · have hR2 := RMk hR hO b1
    have cc : rfS S b (True) = 0 := by omega
    obtain ⟨b2, b4, b3⟩ := bb cc
    obtain ⟨⟨hb0, hb1⟩, hin, hdn⟩ := rfS_0 cc
    obtain ⟨b, rfl⟩ := Int.eq_ofNat_of_zero_le hb0
    rw [Int.toNat_natCast] at hdn
    have hb : b < S.1 0 := by omega
    refine r_iconst C (pc := 13) d_M_needs_13 ?_
    refine r_ist3 C (pc := 14) rfl d_M_needs_14 ?_
    refine r_weak ?_ (l_M_needs_15 C hS M S hR hO b hb N3 hR2 (b3 b hb hdn) cc hQ 12 0 (by omega) (fun t ht => absurd ht (Nat.not_lt_zero t)) (by omega))
    exact ⟨Or.inr rfl, Or.inr rfl, Or.inl rfl, Or.inr rfl, trivial⟩
  · refine r_ild2 C (pc := 11) d_M_needs_11 ?_
    exact r_iret C (pc := 12) hQ (⟨by unfold fNeeds; rw [if_pos (by omega)], RMk hR hO b1⟩) d_M_needs_12
