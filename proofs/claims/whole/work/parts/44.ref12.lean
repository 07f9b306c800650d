theorem bit_and {s j : Nat} : (s / 2 ^ j &&& 1) = if s.testBit j then 1 else 0 := by
  rw [Nat.and_one_is_mod, Nat.testBit_eq_decide_div_mod_eq]
  by_cases h : s / 2 ^ j % 2 = 1
  · rw [decide_eq_true h, if_pos rfl, h]
  · rw [decide_eq_false h, if_neg (by decide)]
    omega
theorem cn_8 {s : Nat} (h : s < 256) : cn s = dcnt (fun i => s.testBit i) 8 := by
  unfold cn
  rw [show 12 = 8 + 4 from rfl, dcnt_ext (f := fun i => s.testBit i) 4 (fun j h1 _ => Nat.testBit_lt_two_pow (Nat.lt_of_lt_of_le h (Nat.pow_le_pow_right (n := 2) (by decide) h1)))]
set_option maxRecDepth 20000 in
theorem l_M_ones_4 {G : zG} (C : zC G b_M_ones "OldBeamsModel" (some .int) 3 0 0) (hS : G.1 = sM) (M : zM) (s : Nat) (hs : s < 256) (hQ : G.2.2.1 = zPi (fun r M2 => r = (cn s : Int) ∧ M = M2)) : ∀ (n : Nat) (j : Nat), (j ≤ 8) → (8 - j < n) → VJ G M 4 [some (.int (iI (s : Int))), some (.int (iI (dcnt (fun i => Nat.testBit s i) j : Int))), some (.int (iI (j : Int)))] [] := by
  intro n
  induction n with
  | zero =>
    intro j hj hn
    exact absurd hn (by omega)
  | succ n ih =>
    intro j hj hn
    have es := dcnt_succ (fun i => Nat.testBit s i) j
    refine r_ild2 C (pc := 4) d_M_ones_4 ?_
    refine r_bipush C (pc := 5) (n := 8) rfl d_M_ones_5 ?_
    refine r_icmp_ge C (pc := 7) (tgt := 24) (by omega) (by omega) d_M_ones_7 (by decide) (fun c7 => ?_) (fun c7 => ?_)
    · refine r_ild1 C (pc := 24) d_M_ones_24 ?_
      exact r_iret C (pc := 25) hQ (⟨by rw [cn_8 hs, show j = 8 by omega], rfl⟩) d_M_ones_25
    · refine r_ild1 C (pc := 10) d_M_ones_10 ?_
      refine r_ild0 C (pc := 11) d_M_ones_11 ?_
      refine r_ild2 C (pc := 12) d_M_ones_12 ?_
      refine r_ishr C (pc := 13) (bi_shr (by omega) (by omega)) d_M_ones_13 ?_
      refine r_iconst C (pc := 14) d_M_ones_14 ?_
      refine r_iand C (pc := 15) (bi_and _ 1) d_M_ones_15 ?_
      rw [bit_and]
      refine r_iadd C (pc := 16) d_M_ones_16 ?_
      refine r_ist1 C (pc := 17) rfl d_M_ones_17 ?_
      refine r_iinc2 C (pc := 18) rfl d_M_ones_18 ?_
      refine r_goto C (pc := 21) (tgt := 4) d_M_ones_21 (by decide) ?_
      refine r_weak ?_ (ih (j + 1) (by omega) (by omega))
      exact ⟨Or.inr rfl, Or.inr (by rw [es]; rfl), Or.inr rfl, trivial⟩
set_option maxRecDepth 20000 in
theorem c_M_ones (l : Launch) (E : zE) (M : zM) (s : Nat) (hs : s < 256) : zK l sM E y_M_ones b_M_ones 3 (some .int) 0 0 [.int (iI (s : Int))] M (zPi (fun r M2 => r = (cn s : Int) ∧ M = M2)) := by
  refine zK.of "OldBeamsModel" rfl (by decide) (Nat.le_of_ble_eq_true rfl) ?_
  intro G hS hE hQ hL C
  subst hE
  subst hL
  show VJ G M 0 [some (.int (iI (s : Int))), none, none] []
  refine r_iconst C (pc := 0) d_M_ones_0 ?_
  refine r_ist1 C (pc := 1) rfl d_M_ones_1 ?_
  refine r_iconst C (pc := 2) d_M_ones_2 ?_
  refine r_ist2 C (pc := 3) rfl d_M_ones_3 ?_
  exact l_M_ones_4 C hS M s hs hQ 9 0 (by omega) (by omega)
set_option maxRecDepth 20000 in
theorem c_M_isFirst (l : Launch) (E : zE) (M : zM) (a b : Nat) (ha : a < 256) (hb : b < 256) : zK l sM E y_M_isFirst b_M_isFirst 3 (some .boolean) 0 0 [.int (iI (a : Int)), .int (iI (b : Int))] M (zPi (fun r M2 => r = zb (rv b < rv a) ∧ M = M2)) := by
  refine zK.of "OldBeamsModel" rfl (by decide) (Nat.le_of_ble_eq_true rfl) ?_
  intro G hS hE hQ hL C
  subst hE
  subst hL
  show VJ G M 0 [some (.int (iI (a : Int))), some (.int (iI (b : Int))), none] []
  have hx : a ^^^ b < 256 := Nat.xor_lt_two_pow (n := 8) ha hb
  obtain ⟨t1, t2⟩ := fst_tab a ha b hb
  refine r_ild0 C (pc := 0) d_M_isFirst_0 ?_
  refine r_ild1 C (pc := 1) d_M_isFirst_1 ?_
  refine r_ixor C (pc := 2) (bi_xor _ _) d_M_isFirst_2 ?_
  refine r_ist2 C (pc := 3) rfl d_M_isFirst_3 ?_
  refine r_ild0 C (pc := 4) d_M_isFirst_4 ?_
  refine r_ild2 C (pc := 5) d_M_isFirst_5 ?_
  refine r_iand C (pc := 6) (bi_and _ _) d_M_isFirst_6 ?_
  refine r_ild2 C (pc := 7) d_M_isFirst_7 ?_
  refine r_ineg C (pc := 8) d_M_isFirst_8 ?_
  refine r_iand C (pc := 9) ((congrArg (fun z => iI ((a &&& (a ^^^ b) : Nat) : Int) &&& z) (neg_nat _ hx)).trans (bi_and _ _)) d_M_isFirst_9 ?_
  refine r_if_eq C (pc := 10) (tgt := 17) (by omega) d_M_isFirst_10 (by decide) (fun c10 => ?_) (fun c10 => ?_)
  · rw [decide_eq_true (show ((a &&& (a ^^^ b)) &&& (4294967296 - (a ^^^ b)) : Nat) = 0 by omega)] at t2
    refine r_iconst C (pc := 17) d_M_isFirst_17 ?_
    exact r_zret C (pc := 18) hQ (by first | exact Or.inl rfl | exact Or.inr rfl | exact zb_01 _ | assumption) (⟨by first | exact zb_of1 (by simpa using t2) | exact zb_of0 (by simpa using t2), rfl⟩) d_M_isFirst_18
  · rw [decide_eq_false (show ¬ ((a &&& (a ^^^ b)) &&& (4294967296 - (a ^^^ b)) : Nat) = 0 by omega)] at t2
    refine r_iconst C (pc := 13) d_M_isFirst_13 ?_
    refine r_goto C (pc := 14) (tgt := 18) d_M_isFirst_14 (by decide) ?_
    exact r_zret C (pc := 18) hQ (by first | exact Or.inl rfl | exact Or.inr rfl | exact zb_01 _ | assumption) (⟨by first | exact zb_of1 (by simpa using t2) | exact zb_of0 (by simpa using t2), rfl⟩) d_M_isFirst_18
/-- the props that are tried with the number s -/
def psT (S : zS) (s : Nat) : Nat → Bool := fun p => if p < S.1 3 then s.testBit p else psS S p
def okT (S : zS) (y : Int) (s : Nat) : Bool := stG S (psT S s) (dA S (flS S)) y false (y - y)
set_option maxRecDepth 20000 in
theorem l_M_bestProps_65 {G : zG} (C : zC G b_M_bestProps "OldBeamsModel" (some .int) 6 5 127) (hS : G.1 = sM) (M : zM) (S : zS) (hR : RM S M) (hO : ok S) (y : Int) (hy : 0 ≤ y ∧ y ≤ 500) (s : Nat) (hs : s < 256) (best f9 : Int) (K : ∀ N2 : zM, kM M N2 → hT S N2 (flS S) (psT S s) → VJ G N2 102 [some (.ref (zad G 0)), some (.int (iI y)), some (.int (iI best)), some (.int (iI (s : Int))), some (.int (iI f9)), none] []) (hQ : G.2.2.1 = zPi (fun r M2 => r = (if FW S (knS S y) = -900009 then -900009 else (rv (FW S (knS S y)).toNat : Int)) ∧ kM M M2)) : ∀ (n : Nat) (j : Nat) (N : zM), (j ≤ S.1 3) → (kM M N) → (∀ b, b < 12 → N.1 20 b = zb (flS S b = true)) → (∀ p, p < 8 → N.1 21 p = zb ((if p < j then s.testBit p else psS S p) = true)) → (S.1 3 - j < n) → VJ G N 65 [some (.ref (zad G 0)), some (.int (iI y)), some (.int (iI best)), some (.int (iI (s : Int))), some (.int (iI f9)), some (.int (iI (j : Int)))] [] := by
  intro n
  induction n with
  | zero =>
    intro j N hj g1 g2 g3 hn
    exact absurd hn (by omega)
  | succ n ih =>
    intro j N hj g1 g2 g3 hn
    have hcap := hO.1
    have hRN := RMk hR hO g1
    refine r_ild5 C (pc := 65) d_M_bestProps_65 ?_
    refine r_ald0 C (pc := 67) d_M_bestProps_67 ?_
    refine gM_M_props C (pc := 68) hS k_653 d_M_bestProps_68 ?_
    rw [hRN.1.2.2.2]
    refine r_icmp_ge C (pc := 71) (tgt := 102) (by omega) (by omega) d_M_bestProps_71 (by decide) (fun c71 => ?_) (fun c71 => ?_)
    · refine r_weak ?_ (K N g1 ⟨g2, fun p hp => by
        rw [g3 p hp]
        unfold psT
        rw [show S.1 3 = j by omega]⟩)
      exact ⟨Or.inr rfl, Or.inr rfl, Or.inr rfl, Or.inr rfl, Or.inr rfl, Or.inl rfl, trivial⟩
    · refine r_ald0 C (pc := 74) d_M_bestProps_74 ?_
      refine gM_M_trySet C (pc := 75) hS k_659 d_M_bestProps_75 ?_
      refine r_ild5 C (pc := 78) d_M_bestProps_78 ?_
      refine r_ild3 C (pc := 80) d_M_bestProps_80 ?_
      refine r_ild5 C (pc := 81) d_M_bestProps_81 ?_
      refine r_ishr C (pc := 83) (bi_shr (by omega) (by omega)) d_M_bestProps_83 ?_
      refine r_iconst C (pc := 84) d_M_bestProps_84 ?_
      refine r_iand C (pc := 85) (bi_and _ 1) d_M_bestProps_85 ?_
      rw [bit_and]
      refine r_iconst C (pc := 86) d_M_bestProps_86 ?_
      have hbt : ((if s.testBit j = true then 1 else 0 : Nat) : Int) = zb (s.testBit j = true) := by
        by_cases q : s.testBit j = true
        · rw [if_pos q, zb_pos q]; rfl
        · rw [if_neg q, zb_neg q]; rfl
      have hb01 := zb_01 (s.testBit j = true)
      refine r_icmp_ne C (pc := 87) (tgt := 94) (by omega) (by omega) d_M_bestProps_87 (by decide) (fun c87 => ?_) (fun c87 => ?_)
      · refine r_iconst C (pc := 94) d_M_bestProps_94 ?_
        refine M_bastN C (pc := 95) hS (j) (by omega) rfl (by decide) (by omega) (by decide) (by first | exact Or.inl rfl | exact Or.inr rfl | exact zb_01 _ | assumption)  d_M_bestProps_95 ?_
        refine r_iinc5 C (pc := 96) rfl d_M_bestProps_96 ?_
        refine r_goto C (pc := 99) (tgt := 65) d_M_bestProps_99 (by decide) ?_
        refine ih (j + 1) _ (by omega) (kM_I g1 (by omega)) (fun b hb => by rw [zI_o (by omega)]; exact g2 b hb) (fun p hp => ?_) (by omega)
        by_cases e : p = j
        · subst e
          rw [zI_same, if_pos (by omega)]
          omega
        · rw [zI_o (by omega), g3 p hp]
          by_cases z : p < j
          · rw [if_pos z, if_pos (by omega)]
          · rw [if_neg z, if_neg (by omega)]
      · refine r_iconst C (pc := 90) d_M_bestProps_90 ?_
        refine r_goto C (pc := 91) (tgt := 95) d_M_bestProps_91 (by decide) ?_
        refine M_bastN C (pc := 95) hS (j) (by omega) rfl (by decide) (by omega) (by decide) (by first | exact Or.inl rfl | exact Or.inr rfl | exact zb_01 _ | assumption)  d_M_bestProps_95 ?_
        refine r_iinc5 C (pc := 96) rfl d_M_bestProps_96 ?_
        refine r_goto C (pc := 99) (tgt := 65) d_M_bestProps_99 (by decide) ?_
        refine ih (j + 1) _ (by omega) (kM_I g1 (by omega)) (fun b hb => by rw [zI_o (by omega)]; exact g2 b hb) (fun p hp => ?_) (by omega)
        by_cases e : p = j
        · subst e
          rw [zI_same, if_pos (by omega)]
          omega
        · rw [zI_o (by omega), g3 p hp]
          by_cases z : p < j
          · rw [if_pos z, if_pos (by omega)]
          · rw [if_neg z, if_neg (by omega)]
set_option maxRecDepth 20000 in
theorem l_M_bestProps_58f1 {G : zG} (C : zC G b_M_bestProps "OldBeamsModel" (some .int) 6 5 127) (hS : G.1 = sM) (M : zM) (S : zS) (hR : RM S M) (hO : ok S) (y : Int) (hy : 0 ≤ y ∧ y ≤ 500) (s : Nat) (hs : s < 256) (best : Int) (K : ∀ N2 : zM, kM M N2 → VJ G N2 5 [some (.ref (zad G 0)), some (.int (iI y)), some (.int (iI (if okT S y s = true then (s : Int) else best))), some (.int (iI ((s + 1 : Nat) : Int))), none, none] []) (hQ : G.2.2.1 = zPi (fun r M2 => r = (if FW S (knS S y) = -900009 then -900009 else (rv (FW S (knS S y)).toNat : Int)) ∧ kM M M2)) : ∀ (N : zM), (kM M N) → VJ G N 58 [some (.ref (zad G 0)), some (.int (iI y)), some (.int (iI best)), some (.int (iI (s : Int))), some (.int (iI 1)), none] [] := by
  intro N g1
  have hRN := RMk hR hO g1
  have K102 : ∀ N2 : zM, kM M N2 → hT S N2 (flS S) (psT S s) → VJ G N2 102 [some (.ref (zad G 0)), some (.int (iI y)), some (.int (iI best)), some (.int (iI (s : Int))), some (.int (iI 1)), none] [] := by
    intro N2 h1 h2
    refine r_ild4 C (pc := 102) d_M_bestProps_102 ?_
    refine r_if_eq C (pc := 104) (tgt := 127) (by omega) d_M_bestProps_104 (by decide) (fun c104 => ?_) (fun c104 => ?_)
    · exact absurd c104 (by decide)
    · refine r_ald0 C (pc := 107) d_M_bestProps_107 ?_
      refine call_M_layTried C (pc := 108) hS (c_M_layTried _ _ N2 S (RMk hR hO h1) hO _ _ h2) k_818 (by decide) (Nat.le_of_ble_eq_true rfl) rfl d_M_bestProps_108 (kkV (fun N108 h108 => ?_))
      obtain ⟨u1, u2, u4, u3⟩ := h108
      have k2 := h1.tr u1.k
      refine r_ald0 C (pc := 111) d_M_bestProps_111 ?_
      refine r_ild1 C (pc := 112) d_M_bestProps_112 ?_
      refine r_ild1 C (pc := 113) d_M_bestProps_113 ?_
      refine r_iconst C (pc := 114) d_M_bestProps_114 ?_
      refine call_M_isStanding C (pc := 115) hS (c_M_isStanding _ _ N108 S (RMk hR hO k2) hO (psT S s) (dA S (flS S)) u2 u3 y y (by omega) 0 (by decide)) k_968 (by decide) (Nat.le_of_ble_eq_true rfl) rfl d_M_bestProps_115 (kkI (fun r115 N115 h115 => ?_))
      obtain ⟨rfl, a1⟩ := h115
      have eT : stG S (psT S s) (dA S (flS S)) y (decide ((0 : Int) = 1)) (y - y) = okT S y s := rfl
      rw [eT]
      refine r_ifeqB C (pc := 118) (tgt := 125) d_M_bestProps_118 (by decide) (fun c118 => ?_) (fun c118 => ?_)
      · refine r_ild2 C (pc := 125) d_M_bestProps_125 ?_
        refine r_ist2 C (pc := 126) rfl d_M_bestProps_126 ?_
        refine r_iinc3 C (pc := 127) rfl d_M_bestProps_127 ?_
        refine r_goto C (pc := 130) (tgt := 5) d_M_bestProps_130 (by decide) ?_
        refine r_weak ?_ (K _ (k2.tr a1.k))
        exact ⟨Or.inr rfl, Or.inr rfl, Or.inr (by rw [if_neg c118]), Or.inr rfl, Or.inl rfl, Or.inl rfl, trivial⟩
      · refine r_ild3 C (pc := 121) d_M_bestProps_121 ?_
        refine r_goto C (pc := 122) (tgt := 126) d_M_bestProps_122 (by decide) ?_
        refine r_ist2 C (pc := 126) rfl d_M_bestProps_126 ?_
        refine r_iinc3 C (pc := 127) rfl d_M_bestProps_127 ?_
        refine r_goto C (pc := 130) (tgt := 5) d_M_bestProps_130 (by decide) ?_
        refine r_weak ?_ (K _ (k2.tr a1.k))
        exact ⟨Or.inr rfl, Or.inr rfl, Or.inr (by rw [if_pos c118]), Or.inr rfl, Or.inl rfl, Or.inl rfl, trivial⟩
  refine r_ald0 C (pc := 58) d_M_bestProps_58 ?_
  refine call_M_tryNow C (pc := 59) hS (c_M_tryNow _ _ N S hRN hO) k_814 (by decide) (Nat.le_of_ble_eq_true rfl) rfl d_M_bestProps_59 (kkV (fun N59 h59 => ?_))
  obtain ⟨v1, v2, v3⟩ := h59
  have k1 : kM M N59 := g1.tr (fun a i q => v1 a i (by omega) (by omega))
  refine r_iconst C (pc := 62) d_M_bestProps_62 ?_
  refine r_ist5 C (pc := 63) rfl d_M_bestProps_63 ?_
  refine l_M_bestProps_65 C hS M S hR hO y hy s hs best 1 K102 hQ (S.1 3 + 1) 0 N59 (by omega) k1 v2 (fun p hp => ?_) (by omega)
  rw [v3 p hp, if_neg (by omega)]
set_option maxRecDepth 20000 in
theorem l_M_bestProps_58f0 {G : zG} (C : zC G b_M_bestProps "OldBeamsModel" (some .int) 6 5 127) (hS : G.1 = sM) (M : zM) (S : zS) (hR : RM S M) (hO : ok S) (y : Int) (hy : 0 ≤ y ∧ y ≤ 500) (s : Nat) (hs : s < 256) (best : Int) (K : ∀ N2 : zM, kM M N2 → VJ G N2 5 [some (.ref (zad G 0)), some (.int (iI y)), some (.int (iI best)), some (.int (iI ((s + 1 : Nat) : Int))), none, none] []) (hQ : G.2.2.1 = zPi (fun r M2 => r = (if FW S (knS S y) = -900009 then -900009 else (rv (FW S (knS S y)).toNat : Int)) ∧ kM M M2)) : ∀ (N : zM), (kM M N) → VJ G N 58 [some (.ref (zad G 0)), some (.int (iI y)), some (.int (iI best)), some (.int (iI (s : Int))), some (.int (iI 0)), none] [] := by
  intro N g1
  have hRN := RMk hR hO g1
  have K102 : ∀ N2 : zM, kM M N2 → hT S N2 (flS S) (psT S s) → VJ G N2 102 [some (.ref (zad G 0)), some (.int (iI y)), some (.int (iI best)), some (.int (iI (s : Int))), some (.int (iI 0)), none] [] := by
    intro N2 h1 h2
    refine r_ild4 C (pc := 102) d_M_bestProps_102 ?_
    refine r_if_eq C (pc := 104) (tgt := 127) (by omega) d_M_bestProps_104 (by decide) (fun c104 => ?_) (fun c104 => ?_)
    · refine r_iinc3 C (pc := 127) rfl d_M_bestProps_127 ?_
      refine r_goto C (pc := 130) (tgt := 5) d_M_bestProps_130 (by decide) ?_
      refine r_weak ?_ (K N2 h1)
      exact ⟨Or.inr rfl, Or.inr rfl, Or.inr rfl, Or.inr rfl, Or.inl rfl, Or.inl rfl, trivial⟩
    · exact absurd c104 (by decide)
  refine r_ald0 C (pc := 58) d_M_bestProps_58 ?_
  refine call_M_tryNow C (pc := 59) hS (c_M_tryNow _ _ N S hRN hO) k_814 (by decide) (Nat.le_of_ble_eq_true rfl) rfl d_M_bestProps_59 (kkV (fun N59 h59 => ?_))
  obtain ⟨v1, v2, v3⟩ := h59
  have k1 : kM M N59 := g1.tr (fun a i q => v1 a i (by omega) (by omega))
  refine r_iconst C (pc := 62) d_M_bestProps_62 ?_
  refine r_ist5 C (pc := 63) rfl d_M_bestProps_63 ?_
  refine l_M_bestProps_65 C hS M S hR hO y hy s hs best 0 K102 hQ (S.1 3 + 1) 0 N59 (by omega) k1 v2 (fun p hp => ?_) (by omega)
  rw [v3 p hp, if_neg (by omega)]
