set_option maxRecDepth 20000 in
theorem l_M_common_17 {G : zG} (C : zC G b_M_common "OldBeamsModel" (some .long) 10 0 0) (hS : G.1 = sM) (M : zM) (a0 b0 : Nat) (hQ : G.2.2.1 = zPl (fun r M2 => r = lN (Nat.gcd a0 b0) ∧ M = M2)) : ∀ (n : Nat) (a b : Nat), (a < 2 ^ 63) → (b < 2 ^ 63) → (Nat.gcd a b = Nat.gcd a0 b0) → (b < n) → VJ G M 17 [some (.long (lN a0)), none, some (.long (lN b0)), none, some (.long (lN a)), none, some (.long (lN b)), none, none, none] [] := by
  intro n
  induction n with
  | zero =>
    intro a b ha hb hg hn
    exact absurd hn (by omega)
  | succ n ih =>
    intro a b ha hb hg hn
    refine r_lld6 C (pc := 17) d_M_common_17 ?_
    refine r_lconst C (pc := 19) (v := 0) rfl d_M_common_19 ?_
    refine r_lcmp_eq C (pc := 20) (tgt := 42) d_M_common_20 d_M_common_21 (by decide) (fun c20 => ?_) (fun c20 => ?_)
    · have hb1 : b = 0 := (pk_lEQ hb (by decide)).mp (c20.trans lN_0.symm)
      refine r_lld4 C (pc := 42) d_M_common_42 ?_
      exact r_lret C (pc := 44) hQ (⟨by rw [← hg, hb1, Nat.gcd_zero_right], rfl⟩) d_M_common_44
    · have hb0 : 0 < b := by
        rcases Nat.eq_zero_or_pos b with q | q
        · exact absurd (by rw [q]; rfl) c20
        · exact q
      have hml := Nat.mod_lt a hb0
      refine r_lld4 C (pc := 24) d_M_common_24 ?_
      refine r_lld6 C (pc := 26) d_M_common_26 ?_
      refine r_lrem C (pc := 28) (lN_ne hb0 hb) d_M_common_28 ?_
      refine r_topl (pk_lRem ha hb0 hb) ?_
      refine r_lst8 C (pc := 29) rfl d_M_common_29 ?_
      refine r_lld6 C (pc := 31) d_M_common_31 ?_
      refine r_lst4 C (pc := 33) rfl d_M_common_33 ?_
      refine r_lld8 C (pc := 35) d_M_common_35 ?_
      refine r_lst6 C (pc := 37) rfl d_M_common_37 ?_
      refine r_goto C (pc := 39) (tgt := 17) d_M_common_39 (by decide) ?_
      refine r_weak ?_ (ih b (a % b) hb (mod_63 a hb0 hb) ((gcd_step a b).trans hg) (by omega))
      exact ⟨Or.inr rfl, Or.inr rfl, Or.inr rfl, Or.inr rfl, Or.inr rfl, Or.inr rfl, Or.inr rfl, Or.inr rfl, Or.inl rfl, Or.inl rfl, trivial⟩
set_option maxRecDepth 20000 in
theorem c_M_common (l : Launch) (E : zE) (M : zM) (a0 b0 : Nat) (ha : a0 < 2 ^ 63) (hb : b0 < 2 ^ 63) : zK l sM E y_M_common b_M_common 10 (some .long) 0 0 [.long (lN a0), .long (lN b0)] M (zPl (fun r M2 => r = lN (Nat.gcd a0 b0) ∧ M = M2)) := by
  refine zK.of "OldBeamsModel" rfl (by decide) (Nat.le_of_ble_eq_true rfl) ?_
  intro G hS hE hQ hL C
  subst hE
  subst hL
  show VJ G M 0 [some (.long (lN a0)), none, some (.long (lN b0)), none, none, none, none, none, none, none] []
  refine r_lld0 C (pc := 0) d_M_common_0 ?_
  refine r_lconst C (pc := 1) (v := 0) rfl d_M_common_1 ?_
  refine r_lcmp_ge C (pc := 2) (tgt := 11) d_M_common_2 d_M_common_3 (by decide) (fun c2 => ?_) (fun c2 => ?_)
  · refine r_lld0 C (pc := 11) d_M_common_11 ?_
    refine r_lst4 C (pc := 12) rfl d_M_common_12 ?_
    refine r_lld2 C (pc := 14) d_M_common_14 ?_
    refine r_lst6 C (pc := 15) rfl d_M_common_15 ?_
    exact l_M_common_17 C hS M a0 b0 hQ (b0 + 1) a0 b0 ha hb rfl (by omega)
  · exact absurd ((pk_lLE (a := 0) (b := a0) (by decide) ha).mpr (Nat.zero_le _)) c2
set_option maxRecDepth 20000 in
theorem c_M_cutDown (l : Launch) (E : zE) (M : zM) (x y : Int64) (hy : ¬ y = 0) : zK l sM E y_M_cutDown b_M_cutDown 6 (some .long) 0 0 [.long x, .long y] M (zPl (fun r M2 => r = fdv x y ∧ M = M2)) := by
  refine zK.of "OldBeamsModel" rfl (by decide) (Nat.le_of_ble_eq_true rfl) ?_
  intro G hS hE hQ hL C
  subst hE
  subst hL
  show VJ G M 0 [some (.long x), none, some (.long y), none, none, none] []
  refine r_lld0 C (pc := 0) d_M_cutDown_0 ?_
  refine r_lld2 C (pc := 1) d_M_cutDown_1 ?_
  refine r_ldiv C (pc := 2) hy d_M_cutDown_2 ?_
  refine r_lst4 C (pc := 3) rfl d_M_cutDown_3 ?_
  refine r_lld0 C (pc := 5) d_M_cutDown_5 ?_
  refine r_lld2 C (pc := 6) d_M_cutDown_6 ?_
  refine r_lrem C (pc := 7) hy d_M_cutDown_7 ?_
  refine r_lconst C (pc := 8) (v := 0) rfl d_M_cutDown_8 ?_
  refine r_lcmp_ge C (pc := 9) (tgt := 20) d_M_cutDown_9 d_M_cutDown_10 (by decide) (fun c9 => ?_) (fun c9 => ?_)
  · have e8 : fdv x y = x / y := by unfold fdv; rw [if_neg (Int64.not_lt.mpr c9)]
    refine r_lld4 C (pc := 20) d_M_cutDown_20 ?_
    exact r_lret C (pc := 22) hQ (⟨e8.symm, rfl⟩) d_M_cutDown_22
  · have e8 : fdv x y = x / y - 1 := by unfold fdv; rw [if_pos (Int64.not_le.mp c9)]
    refine r_lld4 C (pc := 13) d_M_cutDown_13 ?_
    refine r_lconst C (pc := 15) (v := 1) rfl d_M_cutDown_15 ?_
    refine r_lsub C (pc := 16) d_M_cutDown_16 ?_
    refine r_goto C (pc := 17) (tgt := 22) d_M_cutDown_17 (by decide) ?_
    exact r_lret C (pc := 22) hQ (⟨e8.symm, rfl⟩) d_M_cutDown_22
set_option maxRecDepth 20000 in
theorem c_M_told (l : Launch) (E : zE) (M : zM) (a b : Nat) (ha : a < 2 ^ 63) (hb : b < 2 ^ 63) (hb0 : 0 < b) (z : Int) (hz : z = 0 ∨ z = 1) : zK l sM E y_M_told b_M_told 7 (some .long) 1 29 [.long (lN a), .long (lN b), .int (iI z)] M (zPl (fun r M2 => r = part a b z ∧ M = M2)) := by
  refine zK.of "OldBeamsModel" rfl (by decide) (Nat.le_of_ble_eq_true rfl) ?_
  intro G hS hE hQ hL C
  subst hE
  subst hL
  show VJ G M 0 [some (.long (lN a)), none, some (.long (lN b)), none, some (.int (iI z)), none, none] []
  have hg0 : 0 < Nat.gcd a b := Nat.gcd_pos_of_pos_right a hb0
  have hg : Nat.gcd a b < 2 ^ 63 := Nat.lt_of_le_of_lt (Nat.gcd_le_right a hb0) hb
  refine r_lld0 C (pc := 0) d_M_told_0 ?_
  refine r_lld2 C (pc := 1) d_M_told_1 ?_
  refine call_M_common C (pc := 2) hS (c_M_common _ _ _ a b ha hb) k_946 (by decide) (Nat.le_of_ble_eq_true rfl) rfl d_M_told_2 (kkL (fun r2 N2 h2 => ?_))
  obtain ⟨rfl, rfl⟩ := h2
  refine r_lst5 C (pc := 5) rfl d_M_told_5 ?_
  refine r_ild4 C (pc := 7) d_M_told_7 ?_
  refine r_if_eq C (pc := 9) (tgt := 19) (by omega) d_M_told_9 (by decide) (fun c9 => ?_) (fun c9 => ?_)
  · refine r_lld2 C (pc := 19) d_M_told_19 ?_
    refine r_lld5 C (pc := 20) d_M_told_20 ?_
    refine r_ldiv C (pc := 22) (lN_ne hg0 hg) d_M_told_22 ?_
    refine r_topl (pk_lDiv hb hg0 hg) ?_
    exact r_lret C (pc := 23) hQ (⟨by unfold part; first | rw [if_pos c9] | rw [if_neg c9], rfl⟩) d_M_told_23
  · refine r_lld0 C (pc := 12) d_M_told_12 ?_
    refine r_lld5 C (pc := 13) d_M_told_13 ?_
    refine r_ldiv C (pc := 15) (lN_ne hg0 hg) d_M_told_15 ?_
    refine r_topl (pk_lDiv ha hg0 hg) ?_
    refine r_goto C (pc := 16) (tgt := 23) d_M_told_16 (by decide) ?_
    exact r_lret C (pc := 23) hQ (⟨by unfold part; first | rw [if_pos c9] | rw [if_neg c9], rfl⟩) d_M_told_23
set_option maxRecDepth 20000 in
theorem l_M_isAbove_17 {G : zG} (C : zC G b_M_isAbove "OldBeamsModel" (some .boolean) 21 0 0) (hS : G.1 = sM) (M : zM) (a0 b0 c0 d0 : Nat) (hQ : G.2.2.1 = zPi (fun r M2 => r = zb (c0 * b0 < a0 * d0) ∧ M = M2)) : ∀ (n : Nat) (a b c d : Nat) (f : Int), (a < 2 ^ 63) → (b < 2 ^ 63) → (c < 2 ^ 63) → (d < 2 ^ 63) → (0 < b) → (0 < d) → (f = 0 ∨ f = 1) → (c0 * b0 < a0 * d0 ↔ (if f = 0 then c * b < a * d else a * d < c * b)) → (b < n) → VJ G M 17 [some (.long (lN a0)), none, some (.long (lN b0)), none, some (.long (lN c0)), none, some (.long (lN d0)), none, some (.long (lN a)), none, some (.long (lN b)), none, some (.long (lN c)), none, some (.long (lN d)), none, some (.int (iI f)), none, none, none, none] [] := by
  intro n
  induction n with
  | zero =>
    intro a b c d f ha hb hc hd hb0 hd0 hf heq hn
    exact absurd hn (by omega)
  | succ n ih =>
    intro a b c d f ha hb hc hd hb0 hd0 hf heq hn
    have hml := Nat.mod_lt a hb0
    refine r_lld8 C (pc := 17) d_M_isAbove_17 ?_
    refine r_lld10 C (pc := 19) d_M_isAbove_19 ?_
    refine r_ldiv C (pc := 21) (lN_ne hb0 hb) d_M_isAbove_21 ?_
    refine r_topl (pk_lDiv ha hb0 hb) ?_
    refine r_lld12 C (pc := 22) d_M_isAbove_22 ?_
    refine r_lld14 C (pc := 24) d_M_isAbove_24 ?_
    refine r_ldiv C (pc := 26) (lN_ne hd0 hd) d_M_isAbove_26 ?_
    refine r_topl (pk_lDiv hc hd0 hd) ?_
    refine r_lcmp_ne C (pc := 27) (tgt := 137) d_M_isAbove_27 d_M_isAbove_28 (by decide) (fun c27 => ?_) (fun c27 => ?_)
    · have hq : ¬ a / b = c / d := fun q => c27 (by rw [q])
      have hI := cf_ne hb0 hd0 hq
      have hJ := cf_ne hd0 hb0 (Ne.symm hq)
      refine r_lld8 C (pc := 137) d_M_isAbove_137 ?_
      refine r_lld10 C (pc := 139) d_M_isAbove_139 ?_
      refine r_ldiv C (pc := 141) (lN_ne hb0 hb) d_M_isAbove_141 ?_
      refine r_topl (pk_lDiv ha hb0 hb) ?_
      refine r_lld12 C (pc := 142) d_M_isAbove_142 ?_
      refine r_lld14 C (pc := 144) d_M_isAbove_144 ?_
      refine r_ldiv C (pc := 146) (lN_ne hd0 hd) d_M_isAbove_146 ?_
      refine r_topl (pk_lDiv hc hd0 hd) ?_
      refine r_lcmp_le C (pc := 147) (tgt := 155) d_M_isAbove_147 d_M_isAbove_148 (by decide) (fun c147 => ?_) (fun c147 => ?_)
      · rw [pk_lLE (a := a / b) (b := c / d) (div_63 b ha) (div_63 d hc)] at c147
        refine r_iconst C (pc := 155) d_M_isAbove_155 ?_
        refine r_ild16 C (pc := 156) d_M_isAbove_156 ?_
        refine r_icmp_eq C (pc := 158) (tgt := 165) (by omega) (by omega) d_M_isAbove_158 (by decide) (fun c158 => ?_) (fun c158 => ?_)
        · refine r_iconst C (pc := 165) d_M_isAbove_165 ?_
          exact r_zret C (pc := 166) hQ (by first | exact Or.inl rfl | exact Or.inr rfl | exact zb_01 _ | assumption) (⟨by rcases hf with rfl | rfl; (· rw [if_pos rfl] at heq; first | exact zb_of1 (heq.mpr (hJ.mpr (by omega))) | exact zb_of0 (fun q => by have := hJ.mp (heq.mp q); omega)); rw [if_neg (by decide)] at heq; first | exact zb_of1 (heq.mpr (hI.mpr (by omega))) | exact zb_of0 (fun q => by have := hI.mp (heq.mp q); omega), rfl⟩) d_M_isAbove_166
        · refine r_iconst C (pc := 161) d_M_isAbove_161 ?_
          refine r_goto C (pc := 162) (tgt := 166) d_M_isAbove_162 (by decide) ?_
          exact r_zret C (pc := 166) hQ (by first | exact Or.inl rfl | exact Or.inr rfl | exact zb_01 _ | assumption) (⟨by rcases hf with rfl | rfl; (· rw [if_pos rfl] at heq; first | exact zb_of1 (heq.mpr (hJ.mpr (by omega))) | exact zb_of0 (fun q => by have := hJ.mp (heq.mp q); omega)); rw [if_neg (by decide)] at heq; first | exact zb_of1 (heq.mpr (hI.mpr (by omega))) | exact zb_of0 (fun q => by have := hI.mp (heq.mp q); omega), rfl⟩) d_M_isAbove_166
      · rw [pk_lLE (a := a / b) (b := c / d) (div_63 b ha) (div_63 d hc)] at c147
        refine r_iconst C (pc := 151) d_M_isAbove_151 ?_
        refine r_goto C (pc := 152) (tgt := 156) d_M_isAbove_152 (by decide) ?_
        refine r_ild16 C (pc := 156) d_M_isAbove_156 ?_
        refine r_icmp_eq C (pc := 158) (tgt := 165) (by omega) (by omega) d_M_isAbove_158 (by decide) (fun c158 => ?_) (fun c158 => ?_)
        · refine r_iconst C (pc := 165) d_M_isAbove_165 ?_
          exact r_zret C (pc := 166) hQ (by first | exact Or.inl rfl | exact Or.inr rfl | exact zb_01 _ | assumption) (⟨by rcases hf with rfl | rfl; (· rw [if_pos rfl] at heq; first | exact zb_of1 (heq.mpr (hJ.mpr (by omega))) | exact zb_of0 (fun q => by have := hJ.mp (heq.mp q); omega)); rw [if_neg (by decide)] at heq; first | exact zb_of1 (heq.mpr (hI.mpr (by omega))) | exact zb_of0 (fun q => by have := hI.mp (heq.mp q); omega), rfl⟩) d_M_isAbove_166
        · refine r_iconst C (pc := 161) d_M_isAbove_161 ?_
          refine r_goto C (pc := 162) (tgt := 166) d_M_isAbove_162 (by decide) ?_
          exact r_zret C (pc := 166) hQ (by first | exact Or.inl rfl | exact Or.inr rfl | exact zb_01 _ | assumption) (⟨by rcases hf with rfl | rfl; (· rw [if_pos rfl] at heq; first | exact zb_of1 (heq.mpr (hJ.mpr (by omega))) | exact zb_of0 (fun q => by have := hJ.mp (heq.mp q); omega)); rw [if_neg (by decide)] at heq; first | exact zb_of1 (heq.mpr (hI.mpr (by omega))) | exact zb_of0 (fun q => by have := hI.mp (heq.mp q); omega), rfl⟩) d_M_isAbove_166
    · have hq : a / b = c / d := (pk_lEQ (div_63 b ha) (div_63 d hc)).mp c27
      have hI := cf_eq hq
      have hJ := cf_eq hq.symm
      refine r_lld8 C (pc := 31) d_M_isAbove_31 ?_
      refine r_lld10 C (pc := 33) d_M_isAbove_33 ?_
      refine r_lrem C (pc := 35) (lN_ne hb0 hb) d_M_isAbove_35 ?_
      refine r_topl (pk_lRem ha hb0 hb) ?_
      refine r_lst17 C (pc := 36) rfl d_M_isAbove_36 ?_
      refine r_lld12 C (pc := 38) d_M_isAbove_38 ?_
      refine r_lld14 C (pc := 40) d_M_isAbove_40 ?_
      refine r_lrem C (pc := 42) (lN_ne hd0 hd) d_M_isAbove_42 ?_
      refine r_topl (pk_lRem hc hd0 hd) ?_
      refine r_lst19 C (pc := 43) rfl d_M_isAbove_43 ?_
      refine r_lld17 C (pc := 45) d_M_isAbove_45 ?_
      refine r_lconst C (pc := 47) (v := 0) rfl d_M_isAbove_47 ?_
      refine r_lcmp_eq C (pc := 48) (tgt := 59) d_M_isAbove_48 d_M_isAbove_49 (by decide) (fun c48 => ?_) (fun c48 => ?_)
      · have c48_ : a % b = 0 := (pk_lEQ (mod_63 a hb0 hb) (by decide)).mp (c48.trans lN_0.symm)
        refine r_ild16 C (pc := 59) d_M_isAbove_59 ?_
        refine r_if_eq C (pc := 61) (tgt := 86) (by omega) d_M_isAbove_61 (by decide) (fun c61 => ?_) (fun c61 => ?_)
        · rw [if_pos c61] at heq
          refine r_lld19 C (pc := 86) d_M_isAbove_86 ?_
          refine r_lconst C (pc := 88) (v := 0) rfl d_M_isAbove_88 ?_
          refine r_lcmp_ne C (pc := 89) (tgt := 104) d_M_isAbove_89 d_M_isAbove_90 (by decide) (fun c89 => ?_) (fun c89 => ?_)
          · have c89_ : ¬ c % d = 0 := fun q => c89 (by rw [q]; rfl)
            refine r_iconst C (pc := 104) d_M_isAbove_104 ?_
            exact r_zret C (pc := 105) hQ (by first | exact Or.inl rfl | exact Or.inr rfl | exact zb_01 _ | assumption) (⟨by first | exact zb_of1 (heq.mpr (hI.mpr (cf_r0 hb0 hd0 (by omega) (by omega)))) | exact zb_of0 (fun q => by have := cf_r1 (hI.mp (heq.mp q)) (by omega); omega) | exact zb_of1 (heq.mpr (hJ.mpr (cf_r0 hd0 hb0 (by omega) (by omega)))) | exact zb_of0 (fun q => by have := cf_r1 (hJ.mp (heq.mp q)) (by omega); omega), rfl⟩) d_M_isAbove_105
          · have c89_ : c % d = 0 := (pk_lEQ (mod_63 c hd0 hd) (by decide)).mp (c89.trans lN_0.symm)
            refine r_lld17 C (pc := 93) d_M_isAbove_93 ?_
            refine r_lconst C (pc := 95) (v := 0) rfl d_M_isAbove_95 ?_
            refine r_lcmp_le C (pc := 96) (tgt := 104) d_M_isAbove_96 d_M_isAbove_97 (by decide) (fun c96 => ?_) (fun c96 => ?_)
            · have c96_ := (pk_lLE (a := a % b) (b := 0) (mod_63 a hb0 hb) (by decide)).mp c96
              refine r_iconst C (pc := 104) d_M_isAbove_104 ?_
              exact r_zret C (pc := 105) hQ (by first | exact Or.inl rfl | exact Or.inr rfl | exact zb_01 _ | assumption) (⟨by first | exact zb_of1 (heq.mpr (hI.mpr (cf_r0 hb0 hd0 (by omega) (by omega)))) | exact zb_of0 (fun q => by have := cf_r1 (hI.mp (heq.mp q)) (by omega); omega) | exact zb_of1 (heq.mpr (hJ.mpr (cf_r0 hd0 hb0 (by omega) (by omega)))) | exact zb_of0 (fun q => by have := cf_r1 (hJ.mp (heq.mp q)) (by omega); omega), rfl⟩) d_M_isAbove_105
            · have c96_ := mt (pk_lLE (a := a % b) (b := 0) (mod_63 a hb0 hb) (by decide)).mpr c96
              refine r_iconst C (pc := 100) d_M_isAbove_100 ?_
              refine r_goto C (pc := 101) (tgt := 105) d_M_isAbove_101 (by decide) ?_
              exact r_zret C (pc := 105) hQ (by first | exact Or.inl rfl | exact Or.inr rfl | exact zb_01 _ | assumption) (⟨by first | exact zb_of1 (heq.mpr (hI.mpr (cf_r0 hb0 hd0 (by omega) (by omega)))) | exact zb_of0 (fun q => by have := cf_r1 (hI.mp (heq.mp q)) (by omega); omega) | exact zb_of1 (heq.mpr (hJ.mpr (cf_r0 hd0 hb0 (by omega) (by omega)))) | exact zb_of0 (fun q => by have := cf_r1 (hJ.mp (heq.mp q)) (by omega); omega), rfl⟩) d_M_isAbove_105
        · rw [if_neg c61] at heq
          refine r_lld17 C (pc := 64) d_M_isAbove_64 ?_
          refine r_lconst C (pc := 66) (v := 0) rfl d_M_isAbove_66 ?_
          refine r_lcmp_ne C (pc := 67) (tgt := 82) d_M_isAbove_67 d_M_isAbove_68 (by decide) (fun c67 => ?_) (fun c67 => ?_)
          · have c67_ : ¬ a % b = 0 := fun q => c67 (by rw [q]; rfl)
            refine r_iconst C (pc := 82) d_M_isAbove_82 ?_
            refine r_goto C (pc := 83) (tgt := 105) d_M_isAbove_83 (by decide) ?_
            exact r_zret C (pc := 105) hQ (by first | exact Or.inl rfl | exact Or.inr rfl | exact zb_01 _ | assumption) (⟨by first | exact zb_of1 (heq.mpr (hI.mpr (cf_r0 hb0 hd0 (by omega) (by omega)))) | exact zb_of0 (fun q => by have := cf_r1 (hI.mp (heq.mp q)) (by omega); omega) | exact zb_of1 (heq.mpr (hJ.mpr (cf_r0 hd0 hb0 (by omega) (by omega)))) | exact zb_of0 (fun q => by have := cf_r1 (hJ.mp (heq.mp q)) (by omega); omega), rfl⟩) d_M_isAbove_105
          · have c67_ : a % b = 0 := (pk_lEQ (mod_63 a hb0 hb) (by decide)).mp (c67.trans lN_0.symm)
            refine r_lld19 C (pc := 71) d_M_isAbove_71 ?_
            refine r_lconst C (pc := 73) (v := 0) rfl d_M_isAbove_73 ?_
            refine r_lcmp_le C (pc := 74) (tgt := 82) d_M_isAbove_74 d_M_isAbove_75 (by decide) (fun c74 => ?_) (fun c74 => ?_)
            · have c74_ := (pk_lLE (a := c % d) (b := 0) (mod_63 c hd0 hd) (by decide)).mp c74
              refine r_iconst C (pc := 82) d_M_isAbove_82 ?_
              refine r_goto C (pc := 83) (tgt := 105) d_M_isAbove_83 (by decide) ?_
              exact r_zret C (pc := 105) hQ (by first | exact Or.inl rfl | exact Or.inr rfl | exact zb_01 _ | assumption) (⟨by first | exact zb_of1 (heq.mpr (hI.mpr (cf_r0 hb0 hd0 (by omega) (by omega)))) | exact zb_of0 (fun q => by have := cf_r1 (hI.mp (heq.mp q)) (by omega); omega) | exact zb_of1 (heq.mpr (hJ.mpr (cf_r0 hd0 hb0 (by omega) (by omega)))) | exact zb_of0 (fun q => by have := cf_r1 (hJ.mp (heq.mp q)) (by omega); omega), rfl⟩) d_M_isAbove_105
            · have c74_ := mt (pk_lLE (a := c % d) (b := 0) (mod_63 c hd0 hd) (by decide)).mpr c74
              refine r_iconst C (pc := 78) d_M_isAbove_78 ?_
              refine r_goto C (pc := 79) (tgt := 105) d_M_isAbove_79 (by decide) ?_
              exact r_zret C (pc := 105) hQ (by first | exact Or.inl rfl | exact Or.inr rfl | exact zb_01 _ | assumption) (⟨by first | exact zb_of1 (heq.mpr (hI.mpr (cf_r0 hb0 hd0 (by omega) (by omega)))) | exact zb_of0 (fun q => by have := cf_r1 (hI.mp (heq.mp q)) (by omega); omega) | exact zb_of1 (heq.mpr (hJ.mpr (cf_r0 hd0 hb0 (by omega) (by omega)))) | exact zb_of0 (fun q => by have := cf_r1 (hJ.mp (heq.mp q)) (by omega); omega), rfl⟩) d_M_isAbove_105
      · have c48_ : ¬ a % b = 0 := fun q => c48 (by rw [q]; rfl)
        refine r_lld19 C (pc := 52) d_M_isAbove_52 ?_
        refine r_lconst C (pc := 54) (v := 0) rfl d_M_isAbove_54 ?_
        refine r_lcmp_ne C (pc := 55) (tgt := 106) d_M_isAbove_55 d_M_isAbove_56 (by decide) (fun c55 => ?_) (fun c55 => ?_)
        · have c55_ : ¬ c % d = 0 := fun q => c55 (by rw [q]; rfl)
          refine r_lld10 C (pc := 106) d_M_isAbove_106 ?_
          refine r_lst8 C (pc := 108) rfl d_M_isAbove_108 ?_
          refine r_lld17 C (pc := 110) d_M_isAbove_110 ?_
          refine r_lst10 C (pc := 112) rfl d_M_isAbove_112 ?_
          refine r_lld14 C (pc := 114) d_M_isAbove_114 ?_
          refine r_lst12 C (pc := 116) rfl d_M_isAbove_116 ?_
          refine r_lld19 C (pc := 118) d_M_isAbove_118 ?_
          refine r_lst14 C (pc := 120) rfl d_M_isAbove_120 ?_
          refine r_ild16 C (pc := 122) d_M_isAbove_122 ?_
          refine r_if_ne C (pc := 124) (tgt := 131) (by omega) d_M_isAbove_124 (by decide) (fun c124 => ?_) (fun c124 => ?_)
          · rw [if_neg c124] at heq
            refine r_iconst C (pc := 131) d_M_isAbove_131 ?_
            refine r_ist16 C (pc := 132) rfl d_M_isAbove_132 ?_
            refine r_goto C (pc := 134) (tgt := 17) d_M_isAbove_134 (by decide) ?_
            refine r_weak ?_ (ih b (a % b) d (c % d) 0 hb (mod_63 a hb0 hb) hd (mod_63 c hd0 hd) (by omega) (by omega) (by decide) (by rw [if_pos rfl, heq, hI, Nat.mul_comm (a % b) d, Nat.mul_comm (c % d) b]) (by omega))
            exact ⟨Or.inr rfl, Or.inr rfl, Or.inr rfl, Or.inr rfl, Or.inr rfl, Or.inr rfl, Or.inr rfl, Or.inr rfl, Or.inr rfl, Or.inr rfl, Or.inr rfl, Or.inr rfl, Or.inr rfl, Or.inr rfl, Or.inr rfl, Or.inr rfl, Or.inr rfl, Or.inl rfl, Or.inl rfl, Or.inl rfl, Or.inl rfl, trivial⟩
          · rw [if_pos c124] at heq
            refine r_iconst C (pc := 127) d_M_isAbove_127 ?_
            refine r_goto C (pc := 128) (tgt := 132) d_M_isAbove_128 (by decide) ?_
            refine r_ist16 C (pc := 132) rfl d_M_isAbove_132 ?_
            refine r_goto C (pc := 134) (tgt := 17) d_M_isAbove_134 (by decide) ?_
            refine r_weak ?_ (ih b (a % b) d (c % d) 1 hb (mod_63 a hb0 hb) hd (mod_63 c hd0 hd) (by omega) (by omega) (by decide) (by rw [if_neg (by decide), heq, hJ, Nat.mul_comm (c % d) b, Nat.mul_comm (a % b) d]) (by omega))
            exact ⟨Or.inr rfl, Or.inr rfl, Or.inr rfl, Or.inr rfl, Or.inr rfl, Or.inr rfl, Or.inr rfl, Or.inr rfl, Or.inr rfl, Or.inr rfl, Or.inr rfl, Or.inr rfl, Or.inr rfl, Or.inr rfl, Or.inr rfl, Or.inr rfl, Or.inr rfl, Or.inl rfl, Or.inl rfl, Or.inl rfl, Or.inl rfl, trivial⟩
        · have c55_ : c % d = 0 := (pk_lEQ (mod_63 c hd0 hd) (by decide)).mp (c55.trans lN_0.symm)
          refine r_ild16 C (pc := 59) d_M_isAbove_59 ?_
          refine r_if_eq C (pc := 61) (tgt := 86) (by omega) d_M_isAbove_61 (by decide) (fun c61 => ?_) (fun c61 => ?_)
          · rw [if_pos c61] at heq
            refine r_lld19 C (pc := 86) d_M_isAbove_86 ?_
            refine r_lconst C (pc := 88) (v := 0) rfl d_M_isAbove_88 ?_
            refine r_lcmp_ne C (pc := 89) (tgt := 104) d_M_isAbove_89 d_M_isAbove_90 (by decide) (fun c89 => ?_) (fun c89 => ?_)
            · have c89_ : ¬ c % d = 0 := fun q => c89 (by rw [q]; rfl)
              refine r_iconst C (pc := 104) d_M_isAbove_104 ?_
              exact r_zret C (pc := 105) hQ (by first | exact Or.inl rfl | exact Or.inr rfl | exact zb_01 _ | assumption) (⟨by first | exact zb_of1 (heq.mpr (hI.mpr (cf_r0 hb0 hd0 (by omega) (by omega)))) | exact zb_of0 (fun q => by have := cf_r1 (hI.mp (heq.mp q)) (by omega); omega) | exact zb_of1 (heq.mpr (hJ.mpr (cf_r0 hd0 hb0 (by omega) (by omega)))) | exact zb_of0 (fun q => by have := cf_r1 (hJ.mp (heq.mp q)) (by omega); omega), rfl⟩) d_M_isAbove_105
            · have c89_ : c % d = 0 := (pk_lEQ (mod_63 c hd0 hd) (by decide)).mp (c89.trans lN_0.symm)
              refine r_lld17 C (pc := 93) d_M_isAbove_93 ?_
              refine r_lconst C (pc := 95) (v := 0) rfl d_M_isAbove_95 ?_
              refine r_lcmp_le C (pc := 96) (tgt := 104) d_M_isAbove_96 d_M_isAbove_97 (by decide) (fun c96 => ?_) (fun c96 => ?_)
              · have c96_ := (pk_lLE (a := a % b) (b := 0) (mod_63 a hb0 hb) (by decide)).mp c96
                refine r_iconst C (pc := 104) d_M_isAbove_104 ?_
                exact r_zret C (pc := 105) hQ (by first | exact Or.inl rfl | exact Or.inr rfl | exact zb_01 _ | assumption) (⟨by first | exact zb_of1 (heq.mpr (hI.mpr (cf_r0 hb0 hd0 (by omega) (by omega)))) | exact zb_of0 (fun q => by have := cf_r1 (hI.mp (heq.mp q)) (by omega); omega) | exact zb_of1 (heq.mpr (hJ.mpr (cf_r0 hd0 hb0 (by omega) (by omega)))) | exact zb_of0 (fun q => by have := cf_r1 (hJ.mp (heq.mp q)) (by omega); omega), rfl⟩) d_M_isAbove_105
              · have c96_ := mt (pk_lLE (a := a % b) (b := 0) (mod_63 a hb0 hb) (by decide)).mpr c96
                refine r_iconst C (pc := 100) d_M_isAbove_100 ?_
                refine r_goto C (pc := 101) (tgt := 105) d_M_isAbove_101 (by decide) ?_
                exact r_zret C (pc := 105) hQ (by first | exact Or.inl rfl | exact Or.inr rfl | exact zb_01 _ | assumption) (⟨by first | exact zb_of1 (heq.mpr (hI.mpr (cf_r0 hb0 hd0 (by omega) (by omega)))) | exact zb_of0 (fun q => by have := cf_r1 (hI.mp (heq.mp q)) (by omega); omega) | exact zb_of1 (heq.mpr (hJ.mpr (cf_r0 hd0 hb0 (by omega) (by omega)))) | exact zb_of0 (fun q => by have := cf_r1 (hJ.mp (heq.mp q)) (by omega); omega), rfl⟩) d_M_isAbove_105
          · rw [if_neg c61] at heq
            refine r_lld17 C (pc := 64) d_M_isAbove_64 ?_
            refine r_lconst C (pc := 66) (v := 0) rfl d_M_isAbove_66 ?_
            refine r_lcmp_ne C (pc := 67) (tgt := 82) d_M_isAbove_67 d_M_isAbove_68 (by decide) (fun c67 => ?_) (fun c67 => ?_)
            · have c67_ : ¬ a % b = 0 := fun q => c67 (by rw [q]; rfl)
              refine r_iconst C (pc := 82) d_M_isAbove_82 ?_
              refine r_goto C (pc := 83) (tgt := 105) d_M_isAbove_83 (by decide) ?_
              exact r_zret C (pc := 105) hQ (by first | exact Or.inl rfl | exact Or.inr rfl | exact zb_01 _ | assumption) (⟨by first | exact zb_of1 (heq.mpr (hI.mpr (cf_r0 hb0 hd0 (by omega) (by omega)))) | exact zb_of0 (fun q => by have := cf_r1 (hI.mp (heq.mp q)) (by omega); omega) | exact zb_of1 (heq.mpr (hJ.mpr (cf_r0 hd0 hb0 (by omega) (by omega)))) | exact zb_of0 (fun q => by have := cf_r1 (hJ.mp (heq.mp q)) (by omega); omega), rfl⟩) d_M_isAbove_105
            · have c67_ : a % b = 0 := (pk_lEQ (mod_63 a hb0 hb) (by decide)).mp (c67.trans lN_0.symm)
              refine r_lld19 C (pc := 71) d_M_isAbove_71 ?_
              refine r_lconst C (pc := 73) (v := 0) rfl d_M_isAbove_73 ?_
              refine r_lcmp_le C (pc := 74) (tgt := 82) d_M_isAbove_74 d_M_isAbove_75 (by decide) (fun c74 => ?_) (fun c74 => ?_)
              · have c74_ := (pk_lLE (a := c % d) (b := 0) (mod_63 c hd0 hd) (by decide)).mp c74
                refine r_iconst C (pc := 82) d_M_isAbove_82 ?_
                refine r_goto C (pc := 83) (tgt := 105) d_M_isAbove_83 (by decide) ?_
                exact r_zret C (pc := 105) hQ (by first | exact Or.inl rfl | exact Or.inr rfl | exact zb_01 _ | assumption) (⟨by first | exact zb_of1 (heq.mpr (hI.mpr (cf_r0 hb0 hd0 (by omega) (by omega)))) | exact zb_of0 (fun q => by have := cf_r1 (hI.mp (heq.mp q)) (by omega); omega) | exact zb_of1 (heq.mpr (hJ.mpr (cf_r0 hd0 hb0 (by omega) (by omega)))) | exact zb_of0 (fun q => by have := cf_r1 (hJ.mp (heq.mp q)) (by omega); omega), rfl⟩) d_M_isAbove_105
              · have c74_ := mt (pk_lLE (a := c % d) (b := 0) (mod_63 c hd0 hd) (by decide)).mpr c74
                refine r_iconst C (pc := 78) d_M_isAbove_78 ?_
                refine r_goto C (pc := 79) (tgt := 105) d_M_isAbove_79 (by decide) ?_
                exact r_zret C (pc := 105) hQ (by first | exact Or.inl rfl | exact Or.inr rfl | exact zb_01 _ | assumption) (⟨by first | exact zb_of1 (heq.mpr (hI.mpr (cf_r0 hb0 hd0 (by omega) (by omega)))) | exact zb_of0 (fun q => by have := cf_r1 (hI.mp (heq.mp q)) (by omega); omega) | exact zb_of1 (heq.mpr (hJ.mpr (cf_r0 hd0 hb0 (by omega) (by omega)))) | exact zb_of0 (fun q => by have := cf_r1 (hJ.mp (heq.mp q)) (by omega); omega), rfl⟩) d_M_isAbove_105
set_option maxRecDepth 20000 in
theorem c_M_isAbove (l : Launch) (E : zE) (M : zM) (a0 b0 c0 d0 : Nat) (ha : a0 < 2 ^ 63) (hb : b0 < 2 ^ 63) (hc : c0 < 2 ^ 63) (hd : d0 < 2 ^ 63) (hb0 : 0 < b0) (hd0 : 0 < d0) : zK l sM E y_M_isAbove b_M_isAbove 21 (some .boolean) 0 0 [.long (lN a0), .long (lN b0), .long (lN c0), .long (lN d0)] M (zPi (fun r M2 => r = zb (c0 * b0 < a0 * d0) ∧ M = M2)) := by
  refine zK.of "OldBeamsModel" rfl (by decide) (Nat.le_of_ble_eq_true rfl) ?_
  intro G hS hE hQ hL C
  subst hE
  subst hL
  show VJ G M 0 [some (.long (lN a0)), none, some (.long (lN b0)), none, some (.long (lN c0)), none, some (.long (lN d0)), none, none, none, none, none, none, none, none, none, none, none, none, none, none] []
  refine r_lld0 C (pc := 0) d_M_isAbove_0 ?_
  refine r_lst8 C (pc := 1) rfl d_M_isAbove_1 ?_
  refine r_lld2 C (pc := 3) d_M_isAbove_3 ?_
  refine r_lst10 C (pc := 4) rfl d_M_isAbove_4 ?_
  refine r_lld4 C (pc := 6) d_M_isAbove_6 ?_
  refine r_lst12 C (pc := 8) rfl d_M_isAbove_8 ?_
  refine r_lld6 C (pc := 10) d_M_isAbove_10 ?_
  refine r_lst14 C (pc := 12) rfl d_M_isAbove_12 ?_
  refine r_iconst C (pc := 14) d_M_isAbove_14 ?_
  refine r_ist16 C (pc := 15) rfl d_M_isAbove_15 ?_
  exact l_M_isAbove_17 C hS M a0 b0 c0 d0 hQ (b0 + 1) a0 b0 c0 d0 0 ha hb hc hd hb0 hd0 (by decide) (by rw [if_pos rfl]) (by omega)
