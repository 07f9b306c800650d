/-- the reference's forces, by beam and place -/
def hGm (F : Nat → Nat → Int64) (N : zM) : Prop := ∀ b, b < 12 → ∀ x, x < 61 → N.2 23 (61 * b + x) = F b x
theorem hGm_k {F : Nat → Nat → Int64} {N : zM} (h : hGm F N) {k i : Nat} {x : Int64} (hk : k ≠ 23) : hGm F (zJ N k i x) := fun b hb y hy => by
  rw [zJ_ne (Ne.symm hk)]
  exact h b hb y hy
theorem hGm_ad {F : Nat → Nat → Int64} {N : zM} (h : hGm F N) {o w : Int} {v : Int64} (ho : 0 ≤ o ∧ o < 12) (hw : 0 ≤ w ∧ w ≤ 60) : hGm (adF F o w v) (zJ N 23 (61 * o + w).toNat (N.2 23 (61 * o + w).toNat + v)) := fun b hb x hx => by
  unfold adF
  rw [if_neg (by omega), zJ_at]
  by_cases e : (b : Int) = o ∧ (x : Int) = w
  · rw [if_pos e, if_pos ⟨rfl, by omega⟩, show (61 * o + w).toNat = 61 * b + x by omega, h b hb x hx]
  · rw [if_neg e, if_neg (by omega)]
    exact h b hb x hx
theorem adF_no (F : Nat → Nat → Int64) (w : Int) (v : Int64) : adF F (-900009) w v = F := by
  unfold adF
  rw [if_pos rfl]
set_option maxRecDepth 20000 in
theorem l_M_bendingOf_38 {G : zG} (C : zC G b_M_bendingOf "OldBeamsModel" (some .long) 6 0 0) (hS : G.1 = sM) (M : zM) (S : zS) (hR : RM S M) (hO : ok S) (b : Nat) (hb : b < S.1 0) (f : Nat → Int64) (hf : ∀ p, p < 61 → M.2 23 (61 * b + p) = f p) (x : Nat) (hx : x ≤ 60) (hQ : G.2.2.1 = zPl (fun r M2 => r = bd S f (M.2 24 (2 * b)) (M.2 24 (2 * b + 1)) b x ∧ M = M2)) : ∀ (j : Nat), (j = x) → VJ G M 38 [some (.ref (zad G 0)), some (.int (iI (b : Int))), some (.int (iI (x : Int))), some (.long (sm (fun p => f p * lI ((x : Int) - (p : Int))) x)), none, some (.int (iI (j : Int)))] [] := by
  intro j hj
  have h12 := hO.n
  obtain ⟨-, hl6, -, -, hpl0, hpl1, hpl, ho0, ho1⟩ := hO.2.2.1 b hb
  obtain ⟨⟨-, e1, -⟩, hrs⟩ := hR.2.2.1 b hb
  have hq0 : M.1 9 (2 * b) = S.2 3 b 0 := (hrs 0 (by omega)).1
  have hq1 : M.1 9 (2 * b + 1) = S.2 3 b 1 := (hrs 1 (by omega)).1
  refine r_iconst C (pc := 38) d_M_bendingOf_38 ?_
  refine r_ild1 C (pc := 39) d_M_bendingOf_39 ?_
  refine r_imul C (pc := 40) d_M_bendingOf_40 ?_
  refine r_ist5 C (pc := 41) rfl d_M_bendingOf_41 ?_
  refine r_ild5 C (pc := 43) d_M_bendingOf_43 ?_
  refine r_iconst C (pc := 45) d_M_bendingOf_45 ?_
  refine r_ild1 C (pc := 46) d_M_bendingOf_46 ?_
  refine r_imul C (pc := 47) d_M_bendingOf_47 ?_
  refine r_iconst C (pc := 48) d_M_bendingOf_48 ?_
  refine r_iadd C (pc := 49) d_M_bendingOf_49 ?_
  refine r_icmp_ge C (pc := 50) (tgt := 95) (by omega) (by omega) d_M_bendingOf_50 (by decide) (fun c50 => ?_) (fun c50 => ?_)
  · exact absurd c50 (by omega)
  · refine r_lld3 C (pc := 53) d_M_bendingOf_53 ?_
    refine r_ald0 C (pc := 54) d_M_bendingOf_54 ?_
    refine gM_M_seatAt C (pc := 55) hS k_645 d_M_bendingOf_55 ?_
    refine r_ild5 C (pc := 58) d_M_bendingOf_58 ?_
    refine M_ialdN C (pc := 60) hS ((2 * b)) (by omega) rfl (by decide) (by omega) (by decide) d_M_bendingOf_60 ?_
    first | rw [hq0] | rw [hq1]
    refine r_ild2 C (pc := 61) d_M_bendingOf_61 ?_
    refine r_icmp_ge C (pc := 62) (tgt := 86) (by omega) (by omega) d_M_bendingOf_62 (by decide) (fun c62 => ?_) (fun c62 => ?_)
    · refine r_lconst C (pc := 86) (v := 0) rfl d_M_bendingOf_86 ?_
      refine r_lsub C (pc := 87) d_M_bendingOf_87 ?_
      refine r_lst3 C (pc := 88) rfl d_M_bendingOf_88 ?_
      refine r_iinc5 C (pc := 89) rfl d_M_bendingOf_89 ?_
      refine r_goto C (pc := 92) (tgt := 43) d_M_bendingOf_92 (by decide) ?_
      refine r_ild5 C (pc := 43) d_M_bendingOf_43 ?_
      refine r_iconst C (pc := 45) d_M_bendingOf_45 ?_
      refine r_ild1 C (pc := 46) d_M_bendingOf_46 ?_
      refine r_imul C (pc := 47) d_M_bendingOf_47 ?_
      refine r_iconst C (pc := 48) d_M_bendingOf_48 ?_
      refine r_iadd C (pc := 49) d_M_bendingOf_49 ?_
      refine r_icmp_ge C (pc := 50) (tgt := 95) (by omega) (by omega) d_M_bendingOf_50 (by decide) (fun c50b => ?_) (fun c50b => ?_)
      · exact absurd c50b (by omega)
      · refine r_lld3 C (pc := 53) d_M_bendingOf_53 ?_
        refine r_ald0 C (pc := 54) d_M_bendingOf_54 ?_
        refine gM_M_seatAt C (pc := 55) hS k_645 d_M_bendingOf_55 ?_
        refine r_ild5 C (pc := 58) d_M_bendingOf_58 ?_
        refine M_ialdN C (pc := 60) hS (((2 * b) + 1)) (by omega) rfl (by decide) (by omega) (by decide) d_M_bendingOf_60 ?_
        first | rw [hq0] | rw [hq1]
        refine r_ild2 C (pc := 61) d_M_bendingOf_61 ?_
        refine r_icmp_ge C (pc := 62) (tgt := 86) (by omega) (by omega) d_M_bendingOf_62 (by decide) (fun c62b => ?_) (fun c62b => ?_)
        · refine r_lconst C (pc := 86) (v := 0) rfl d_M_bendingOf_86 ?_
          refine r_lsub C (pc := 87) d_M_bendingOf_87 ?_
          refine r_lst3 C (pc := 88) rfl d_M_bendingOf_88 ?_
          refine r_iinc5 C (pc := 89) rfl d_M_bendingOf_89 ?_
          refine r_goto C (pc := 92) (tgt := 43) d_M_bendingOf_92 (by decide) ?_
          refine r_ild5 C (pc := 43) d_M_bendingOf_43 ?_
          refine r_iconst C (pc := 45) d_M_bendingOf_45 ?_
          refine r_ild1 C (pc := 46) d_M_bendingOf_46 ?_
          refine r_imul C (pc := 47) d_M_bendingOf_47 ?_
          refine r_iconst C (pc := 48) d_M_bendingOf_48 ?_
          refine r_iadd C (pc := 49) d_M_bendingOf_49 ?_
          refine r_icmp_ge C (pc := 50) (tgt := 95) (by omega) (by omega) d_M_bendingOf_50 (by decide) (fun c50c => ?_) (fun c50c => ?_)
          · refine r_lld3 C (pc := 95) d_M_bendingOf_95 ?_
            exact r_lret C (pc := 96) hQ (⟨by unfold bd; first | (exfalso; omega) | rw [if_pos (by omega), if_pos (by omega)] | rw [if_pos (by omega), if_neg (by omega)] | rw [if_neg (by omega), if_pos (by omega)] | rw [if_neg (by omega), if_neg (by omega)], rfl⟩) d_M_bendingOf_96
          · exact absurd c50c (by omega)
        · refine r_ald0 C (pc := 65) d_M_bendingOf_65 ?_
          refine gM_M_push C (pc := 66) hS k_662 d_M_bendingOf_66 ?_
          refine r_ild5 C (pc := 69) d_M_bendingOf_69 ?_
          refine M_laldN C (pc := 71) hS (((2 * b) + 1)) (by omega) rfl (by decide) (by omega) (by decide) d_M_bendingOf_71 ?_
          refine r_ild2 C (pc := 72) d_M_bendingOf_72 ?_
          refine r_ald0 C (pc := 73) d_M_bendingOf_73 ?_
          refine gM_M_seatAt C (pc := 74) hS k_645 d_M_bendingOf_74 ?_
          refine r_ild5 C (pc := 77) d_M_bendingOf_77 ?_
          refine M_ialdN C (pc := 79) hS (((2 * b) + 1)) (by omega) rfl (by decide) (by omega) (by decide) d_M_bendingOf_79 ?_
          first | rw [hq0] | rw [hq1]
          refine r_isub C (pc := 80) d_M_bendingOf_80 ?_
          refine r_i2l C (pc := 81) (by omega) d_M_bendingOf_81 ?_
          refine r_lmul C (pc := 82) d_M_bendingOf_82 ?_
          refine r_goto C (pc := 83) (tgt := 87) d_M_bendingOf_83 (by decide) ?_
          refine r_lsub C (pc := 87) d_M_bendingOf_87 ?_
          refine r_lst3 C (pc := 88) rfl d_M_bendingOf_88 ?_
          refine r_iinc5 C (pc := 89) rfl d_M_bendingOf_89 ?_
          refine r_goto C (pc := 92) (tgt := 43) d_M_bendingOf_92 (by decide) ?_
          refine r_ild5 C (pc := 43) d_M_bendingOf_43 ?_
          refine r_iconst C (pc := 45) d_M_bendingOf_45 ?_
          refine r_ild1 C (pc := 46) d_M_bendingOf_46 ?_
          refine r_imul C (pc := 47) d_M_bendingOf_47 ?_
          refine r_iconst C (pc := 48) d_M_bendingOf_48 ?_
          refine r_iadd C (pc := 49) d_M_bendingOf_49 ?_
          refine r_icmp_ge C (pc := 50) (tgt := 95) (by omega) (by omega) d_M_bendingOf_50 (by decide) (fun c50c => ?_) (fun c50c => ?_)
          · refine r_lld3 C (pc := 95) d_M_bendingOf_95 ?_
            exact r_lret C (pc := 96) hQ (⟨by unfold bd; first | (exfalso; omega) | rw [if_pos (by omega), if_pos (by omega)] | rw [if_pos (by omega), if_neg (by omega)] | rw [if_neg (by omega), if_pos (by omega)] | rw [if_neg (by omega), if_neg (by omega)], rfl⟩) d_M_bendingOf_96
          · exact absurd c50c (by omega)
    · refine r_ald0 C (pc := 65) d_M_bendingOf_65 ?_
      refine gM_M_push C (pc := 66) hS k_662 d_M_bendingOf_66 ?_
      refine r_ild5 C (pc := 69) d_M_bendingOf_69 ?_
      refine M_laldN C (pc := 71) hS ((2 * b)) (by omega) rfl (by decide) (by omega) (by decide) d_M_bendingOf_71 ?_
      refine r_ild2 C (pc := 72) d_M_bendingOf_72 ?_
      refine r_ald0 C (pc := 73) d_M_bendingOf_73 ?_
      refine gM_M_seatAt C (pc := 74) hS k_645 d_M_bendingOf_74 ?_
      refine r_ild5 C (pc := 77) d_M_bendingOf_77 ?_
      refine M_ialdN C (pc := 79) hS ((2 * b)) (by omega) rfl (by decide) (by omega) (by decide) d_M_bendingOf_79 ?_
      first | rw [hq0] | rw [hq1]
      refine r_isub C (pc := 80) d_M_bendingOf_80 ?_
      refine r_i2l C (pc := 81) (by omega) d_M_bendingOf_81 ?_
      refine r_lmul C (pc := 82) d_M_bendingOf_82 ?_
      refine r_goto C (pc := 83) (tgt := 87) d_M_bendingOf_83 (by decide) ?_
      refine r_lsub C (pc := 87) d_M_bendingOf_87 ?_
      refine r_lst3 C (pc := 88) rfl d_M_bendingOf_88 ?_
      refine r_iinc5 C (pc := 89) rfl d_M_bendingOf_89 ?_
      refine r_goto C (pc := 92) (tgt := 43) d_M_bendingOf_92 (by decide) ?_
      refine r_ild5 C (pc := 43) d_M_bendingOf_43 ?_
      refine r_iconst C (pc := 45) d_M_bendingOf_45 ?_
      refine r_ild1 C (pc := 46) d_M_bendingOf_46 ?_
      refine r_imul C (pc := 47) d_M_bendingOf_47 ?_
      refine r_iconst C (pc := 48) d_M_bendingOf_48 ?_
      refine r_iadd C (pc := 49) d_M_bendingOf_49 ?_
      refine r_icmp_ge C (pc := 50) (tgt := 95) (by omega) (by omega) d_M_bendingOf_50 (by decide) (fun c50b => ?_) (fun c50b => ?_)
      · exact absurd c50b (by omega)
      · refine r_lld3 C (pc := 53) d_M_bendingOf_53 ?_
        refine r_ald0 C (pc := 54) d_M_bendingOf_54 ?_
        refine gM_M_seatAt C (pc := 55) hS k_645 d_M_bendingOf_55 ?_
        refine r_ild5 C (pc := 58) d_M_bendingOf_58 ?_
        refine M_ialdN C (pc := 60) hS (((2 * b) + 1)) (by omega) rfl (by decide) (by omega) (by decide) d_M_bendingOf_60 ?_
        first | rw [hq0] | rw [hq1]
        refine r_ild2 C (pc := 61) d_M_bendingOf_61 ?_
        refine r_icmp_ge C (pc := 62) (tgt := 86) (by omega) (by omega) d_M_bendingOf_62 (by decide) (fun c62b => ?_) (fun c62b => ?_)
        · refine r_lconst C (pc := 86) (v := 0) rfl d_M_bendingOf_86 ?_
          refine r_lsub C (pc := 87) d_M_bendingOf_87 ?_
          refine r_lst3 C (pc := 88) rfl d_M_bendingOf_88 ?_
          refine r_iinc5 C (pc := 89) rfl d_M_bendingOf_89 ?_
          refine r_goto C (pc := 92) (tgt := 43) d_M_bendingOf_92 (by decide) ?_
          refine r_ild5 C (pc := 43) d_M_bendingOf_43 ?_
          refine r_iconst C (pc := 45) d_M_bendingOf_45 ?_
          refine r_ild1 C (pc := 46) d_M_bendingOf_46 ?_
          refine r_imul C (pc := 47) d_M_bendingOf_47 ?_
          refine r_iconst C (pc := 48) d_M_bendingOf_48 ?_
          refine r_iadd C (pc := 49) d_M_bendingOf_49 ?_
          refine r_icmp_ge C (pc := 50) (tgt := 95) (by omega) (by omega) d_M_bendingOf_50 (by decide) (fun c50c => ?_) (fun c50c => ?_)
          · refine r_lld3 C (pc := 95) d_M_bendingOf_95 ?_
            exact r_lret C (pc := 96) hQ (⟨by unfold bd; first | (exfalso; omega) | rw [if_pos (by omega), if_pos (by omega)] | rw [if_pos (by omega), if_neg (by omega)] | rw [if_neg (by omega), if_pos (by omega)] | rw [if_neg (by omega), if_neg (by omega)], rfl⟩) d_M_bendingOf_96
          · exact absurd c50c (by omega)
        · refine r_ald0 C (pc := 65) d_M_bendingOf_65 ?_
          refine gM_M_push C (pc := 66) hS k_662 d_M_bendingOf_66 ?_
          refine r_ild5 C (pc := 69) d_M_bendingOf_69 ?_
          refine M_laldN C (pc := 71) hS (((2 * b) + 1)) (by omega) rfl (by decide) (by omega) (by decide) d_M_bendingOf_71 ?_
          refine r_ild2 C (pc := 72) d_M_bendingOf_72 ?_
          refine r_ald0 C (pc := 73) d_M_bendingOf_73 ?_
          refine gM_M_seatAt C (pc := 74) hS k_645 d_M_bendingOf_74 ?_
          refine r_ild5 C (pc := 77) d_M_bendingOf_77 ?_
          refine M_ialdN C (pc := 79) hS (((2 * b) + 1)) (by omega) rfl (by decide) (by omega) (by decide) d_M_bendingOf_79 ?_
          first | rw [hq0] | rw [hq1]
          refine r_isub C (pc := 80) d_M_bendingOf_80 ?_
          refine r_i2l C (pc := 81) (by omega) d_M_bendingOf_81 ?_
          refine r_lmul C (pc := 82) d_M_bendingOf_82 ?_
          refine r_goto C (pc := 83) (tgt := 87) d_M_bendingOf_83 (by decide) ?_
          refine r_lsub C (pc := 87) d_M_bendingOf_87 ?_
          refine r_lst3 C (pc := 88) rfl d_M_bendingOf_88 ?_
          refine r_iinc5 C (pc := 89) rfl d_M_bendingOf_89 ?_
          refine r_goto C (pc := 92) (tgt := 43) d_M_bendingOf_92 (by decide) ?_
          refine r_ild5 C (pc := 43) d_M_bendingOf_43 ?_
          refine r_iconst C (pc := 45) d_M_bendingOf_45 ?_
          refine r_ild1 C (pc := 46) d_M_bendingOf_46 ?_
          refine r_imul C (pc := 47) d_M_bendingOf_47 ?_
          refine r_iconst C (pc := 48) d_M_bendingOf_48 ?_
          refine r_iadd C (pc := 49) d_M_bendingOf_49 ?_
          refine r_icmp_ge C (pc := 50) (tgt := 95) (by omega) (by omega) d_M_bendingOf_50 (by decide) (fun c50c => ?_) (fun c50c => ?_)
          · refine r_lld3 C (pc := 95) d_M_bendingOf_95 ?_
            exact r_lret C (pc := 96) hQ (⟨by unfold bd; first | (exfalso; omega) | rw [if_pos (by omega), if_pos (by omega)] | rw [if_pos (by omega), if_neg (by omega)] | rw [if_neg (by omega), if_pos (by omega)] | rw [if_neg (by omega), if_neg (by omega)], rfl⟩) d_M_bendingOf_96
          · exact absurd c50c (by omega)
set_option maxRecDepth 20000 in
theorem l_M_bendingOf_5 {G : zG} (C : zC G b_M_bendingOf "OldBeamsModel" (some .long) 6 0 0) (hS : G.1 = sM) (M : zM) (S : zS) (hR : RM S M) (hO : ok S) (b : Nat) (hb : b < S.1 0) (f : Nat → Int64) (hf : ∀ p, p < 61 → M.2 23 (61 * b + p) = f p) (x : Nat) (hx : x ≤ 60) (hQ : G.2.2.1 = zPl (fun r M2 => r = bd S f (M.2 24 (2 * b)) (M.2 24 (2 * b + 1)) b x ∧ M = M2)) : ∀ (n : Nat) (j : Nat), (j ≤ x) → (x - j < n) → VJ G M 5 [some (.ref (zad G 0)), some (.int (iI (b : Int))), some (.int (iI (x : Int))), some (.long (sm (fun p => f p * lI ((x : Int) - (p : Int))) j)), none, some (.int (iI (j : Int)))] [] := by
  intro n
  induction n with
  | zero =>
    intro j hj hn
    exact absurd hn (by omega)
  | succ n ih =>
    intro j hj hn
    have h12 := hO.n
    refine r_ild5 C (pc := 5) d_M_bendingOf_5 ?_
    refine r_ild2 C (pc := 7) d_M_bendingOf_7 ?_
    refine r_icmp_ge C (pc := 8) (tgt := 38) (by omega) (by omega) d_M_bendingOf_8 (by decide) (fun c8 => ?_) (fun c8 => ?_)
    · have ej : j = x := by omega
      subst ej
      exact l_M_bendingOf_38 C hS M S hR hO b hb f hf j hx hQ j rfl
    · refine r_lld3 C (pc := 11) d_M_bendingOf_11 ?_
      refine r_ald0 C (pc := 12) d_M_bendingOf_12 ?_
      refine gM_M_forces C (pc := 13) hS k_661 d_M_bendingOf_13 ?_
      refine r_bipush C (pc := 16) (n := 61) rfl d_M_bendingOf_16 ?_
      refine r_ild1 C (pc := 18) d_M_bendingOf_18 ?_
      refine r_imul C (pc := 19) d_M_bendingOf_19 ?_
      refine r_ild5 C (pc := 20) d_M_bendingOf_20 ?_
      refine r_iadd C (pc := 22) d_M_bendingOf_22 ?_
      refine M_laldN C (pc := 23) hS (61 * b + j) (by omega) rfl (by decide) (by omega) (by decide) d_M_bendingOf_23 ?_
      rw [hf j (by omega)]
      refine r_ild2 C (pc := 24) d_M_bendingOf_24 ?_
      refine r_ild5 C (pc := 25) d_M_bendingOf_25 ?_
      refine r_isub C (pc := 27) d_M_bendingOf_27 ?_
      refine r_i2l C (pc := 28) (by omega) d_M_bendingOf_28 ?_
      refine r_lmul C (pc := 29) d_M_bendingOf_29 ?_
      refine r_ladd C (pc := 30) d_M_bendingOf_30 ?_
      refine r_lst3 C (pc := 31) rfl d_M_bendingOf_31 ?_
      refine r_iinc5 C (pc := 32) rfl d_M_bendingOf_32 ?_
      refine r_goto C (pc := 35) (tgt := 5) d_M_bendingOf_35 (by decide) ?_
      exact ih (j + 1) (by omega) (by omega)
set_option maxRecDepth 20000 in
theorem c_M_bendingOf (l : Launch) (E : zE) (M : zM) (S : zS) (hR : RM S M) (hO : ok S) (b : Nat) (hb : b < S.1 0) (f : Nat → Int64) (hf : ∀ p, p < 61 → M.2 23 (61 * b + p) = f p) (x : Nat) (hx : x ≤ 60) : zK l sM E y_M_bendingOf b_M_bendingOf 6 (some .long) 0 0 [.ref (E.2.2 0), .int (iI (b : Int)), .int (iI (x : Int))] M (zPl (fun r M2 => r = bd S f (M.2 24 (2 * b)) (M.2 24 (2 * b + 1)) b x ∧ M = M2)) := by
  refine zK.of "OldBeamsModel" rfl (by decide) (Nat.le_of_ble_eq_true rfl) ?_
  intro G hS hE hQ hL C
  subst hE
  subst hL
  show VJ G M 0 [some (.ref (G.2.1.2.2 0)), some (.int (iI (b : Int))), some (.int (iI (x : Int))), none, none, none] []
  refine r_lconst C (pc := 0) (v := 0) rfl d_M_bendingOf_0 ?_
  refine r_lst3 C (pc := 1) rfl d_M_bendingOf_1 ?_
  refine r_iconst C (pc := 2) d_M_bendingOf_2 ?_
  refine r_ist5 C (pc := 3) rfl d_M_bendingOf_3 ?_
  exact l_M_bendingOf_5 C hS M S hR hO b hb f hf x hx hQ (x + 1) 0 (by omega) (by omega)
set_option maxRecDepth 20000 in
theorem l_M_layGreat_16 {G : zG} (C : zC G b_M_layGreat "OldBeamsModel" none 5 1 25) (hS : G.1 = sM) (M : zM) (S : zS) (hR : RM S M) (hO : ok S) (b : Nat) (hb : b < S.1 0) (f : Nat → Int64) (hf : ∀ p, p < 61 → M.2 23 (61 * b + p) = f p) (hQ : G.2.2.1 = zPv (fun M2 => (∀ a i, ¬ (a = 26 ∧ i = b) → M2.1 a i = M.1 a i) ∧ (∀ a i, ¬ (a = 25 ∧ i = b) → M2.2 a i = M.2 a i) ∧ M2.2 25 b = (grN (bd S f (M.2 24 (2 * b)) (M.2 24 (2 * b + 1)) b) ((S.2 2 b 1).toNat + 1)).1 ∧ M2.1 26 b = ((grN (bd S f (M.2 24 (2 * b)) (M.2 24 (2 * b + 1)) b) ((S.2 2 b 1).toNat + 1)).2 : Int))) : ∀ (n : Nat) (j : Nat) (N : zM), (j ≤ (S.2 2 b 1).toNat + 1) → (∀ a i, ¬ (a = 26 ∧ i = b) → N.1 a i = M.1 a i) → (∀ a i, ¬ (a = 25 ∧ i = b) → N.2 a i = M.2 a i) → (N.2 25 b = (grN (bd S f (M.2 24 (2 * b)) (M.2 24 (2 * b + 1)) b) j).1) → (N.1 26 b = ((grN (bd S f (M.2 24 (2 * b)) (M.2 24 (2 * b + 1)) b) j).2 : Int)) → ((S.2 2 b 1).toNat + 1 - j < n) → VJ G N 16 [some (.ref (zad G 0)), some (.int (iI (b : Int))), some (.int (iI (j : Int))), none, none] [] := by
  intro n
  induction n with
  | zero =>
    intro j N hj g1 g2 g3 g4 hn
    exact absurd hn (by omega)
  | succ n ih =>
    intro j N hj g1 g2 g3 g4 hn
    have h12 := hO.n
    obtain ⟨-, hl6, -, -, hpl0, hpl1, hpl, ho0, ho1⟩ := hO.2.2.1 b hb
    obtain ⟨⟨-, e1, -⟩, hrs⟩ := hR.2.2.1 b hb
    have hq0 : M.1 9 (2 * b) = S.2 3 b 0 := (hrs 0 (by omega)).1
    have hq1 : M.1 9 (2 * b + 1) = S.2 3 b 1 := (hrs 1 (by omega)).1
    have hRN : RM S N := RMk hR hO (fun a i q => g1 a i (by omega))
    have e2 : N.1 4 b = S.2 2 b 1 := (g1 4 b (by omega)).trans e1
    have es := grN_succ (bd S f (M.2 24 (2 * b)) (M.2 24 (2 * b + 1)) b) j
    refine r_ild2 C (pc := 16) d_M_layGreat_16 ?_
    refine r_ald0 C (pc := 17) d_M_layGreat_17 ?_
    refine gM_M_length C (pc := 18) hS k_640 d_M_layGreat_18 ?_
    refine r_ild1 C (pc := 21) d_M_layGreat_21 ?_
    refine M_ialdN C (pc := 22) hS (b) (by omega) rfl (by decide) (by omega) (by decide) d_M_layGreat_22 ?_
    rw [e2]
    refine r_icmp_gt C (pc := 23) (tgt := 106) (by omega) (by omega) d_M_layGreat_23 (by decide) (fun c23 => ?_) (fun c23 => ?_)
    · exact r_vret C (pc := 106) hQ (⟨g1, g2, by rw [g3, show j = (S.2 2 b 1).toNat + 1 by omega], by rw [g4, show j = (S.2 2 b 1).toNat + 1 by omega]⟩) d_M_layGreat_106
    · refine r_ald0 C (pc := 26) d_M_layGreat_26 ?_
      refine r_ild1 C (pc := 27) d_M_layGreat_27 ?_
      refine r_ild2 C (pc := 28) d_M_layGreat_28 ?_
      refine call_M_bendingOf C (pc := 29) hS (c_M_bendingOf _ _ N S hRN hO b hb f (fun p hp => (g2 23 _ (by omega)).trans (hf p hp)) j (by omega)) k_837 (by decide) (Nat.le_of_ble_eq_true rfl) rfl d_M_layGreat_29 (kkL (fun r29 N29 h29 => ?_))
      obtain ⟨rfl, rfl⟩ := h29
      rw [g2 24 (2 * b) (by omega), g2 24 (2 * b + 1) (by omega)]
      refine r_lst3 C (pc := 32) rfl d_M_layGreat_32 ?_
      refine r_lld3 C (pc := 33) d_M_layGreat_33 ?_
      refine r_lconst C (pc := 34) (v := 0) rfl d_M_layGreat_34 ?_
      refine r_lcmp_ge C (pc := 35) (tgt := 44) d_M_layGreat_35 d_M_layGreat_36 (by decide) (fun c35 => ?_) (fun c35 => ?_)
      · have hab : ab ((bd S f (M.2 24 (2 * b)) (M.2 24 (2 * b + 1)) b) j) = (bd S f (M.2 24 (2 * b)) (M.2 24 (2 * b + 1)) b) j := by unfold ab; rw [if_neg (Int64.not_lt.mpr c35)]
        refine r_lld3 C (pc := 44) d_M_layGreat_44 ?_
        refine r_lst3 C (pc := 45) rfl d_M_layGreat_45 ?_
        refine r_ald0 C (pc := 46) d_M_layGreat_46 ?_
        refine gM_M_greatPlace C (pc := 47) hS k_664 d_M_layGreat_47 ?_
        refine r_ild1 C (pc := 50) d_M_layGreat_50 ?_
        refine r_lld3 C (pc := 51) d_M_layGreat_51 ?_
        refine r_ald0 C (pc := 52) d_M_layGreat_52 ?_
        refine gM_M_great C (pc := 53) hS k_663 d_M_layGreat_53 ?_
        refine r_ild1 C (pc := 56) d_M_layGreat_56 ?_
        refine M_laldN C (pc := 57) hS (b) (by omega) rfl (by decide) (by omega) (by decide) d_M_layGreat_57 ?_
        rw [g3]
        refine r_lcmp_le C (pc := 58) (tgt := 66) d_M_layGreat_58 d_M_layGreat_59 (by decide) (fun c58 => ?_) (fun c58 => ?_)
        · have c58_ := Int64.not_lt.mpr c58
          refine r_ald0 C (pc := 66) d_M_layGreat_66 ?_
          refine gM_M_greatPlace C (pc := 67) hS k_664 d_M_layGreat_67 ?_
          refine r_ild1 C (pc := 70) d_M_layGreat_70 ?_
          refine M_ialdN C (pc := 71) hS (b) (by omega) rfl (by decide) (by omega) (by decide) d_M_layGreat_71 ?_
          rw [g4]
          refine M_iastN C (pc := 72) hS (b) (by omega) rfl (by decide) (by omega) (by decide)  d_M_layGreat_72 ?_
          refine r_ald0 C (pc := 73) d_M_layGreat_73 ?_
          refine gM_M_great C (pc := 74) hS k_663 d_M_layGreat_74 ?_
          refine r_ild1 C (pc := 77) d_M_layGreat_77 ?_
          refine r_lld3 C (pc := 78) d_M_layGreat_78 ?_
          refine r_ald0 C (pc := 79) d_M_layGreat_79 ?_
          refine gM_M_great C (pc := 80) hS k_663 d_M_layGreat_80 ?_
          refine r_ild1 C (pc := 83) d_M_layGreat_83 ?_
          refine M_laldN C (pc := 84) hS (b) (by omega) rfl (by decide) (by omega) (by decide) d_M_layGreat_84 ?_
          rw [zI_2, g3]
          refine r_lcmp_le C (pc := 85) (tgt := 93) d_M_layGreat_85 d_M_layGreat_86 (by decide) (fun c85 => ?_) (fun c85 => ?_)
          · refine r_ald0 C (pc := 93) d_M_layGreat_93 ?_
            refine gM_M_great C (pc := 94) hS k_663 d_M_layGreat_94 ?_
            refine r_ild1 C (pc := 97) d_M_layGreat_97 ?_
            refine M_laldN C (pc := 98) hS (b) (by omega) rfl (by decide) (by omega) (by decide) d_M_layGreat_98 ?_
            rw [zI_2, g3]
            refine M_lastN C (pc := 99) hS (b) (by omega) rfl (by decide) (by omega) (by decide)  d_M_layGreat_99 ?_
            refine r_iinc2 C (pc := 100) rfl d_M_layGreat_100 ?_
            refine r_goto C (pc := 103) (tgt := 16) d_M_layGreat_103 (by decide) ?_
            first
            | exact absurd c85 c58
            | exact absurd c58 c85
            | (refine r_weak ?_ (ih (j + 1) _ (by omega) (fun a i q => by show (zI _ _ _ _).1 a i = _; rw [zI_o q]; exact g1 a i q) (fun a i q => by rw [zJ_at, if_neg q]; exact g2 a i q) (by rw [zJ_same, es, hab, if_neg c58_]) (by show (zI _ _ _ _).1 26 b = _; rw [zI_same, es, hab, if_neg c58_]) (by omega)); exact ⟨Or.inr rfl, Or.inr rfl, Or.inr rfl, Or.inl rfl, Or.inl rfl, trivial⟩)
          · refine r_lld3 C (pc := 89) d_M_layGreat_89 ?_
            refine r_goto C (pc := 90) (tgt := 99) d_M_layGreat_90 (by decide) ?_
            refine M_lastN C (pc := 99) hS (b) (by omega) rfl (by decide) (by omega) (by decide)  d_M_layGreat_99 ?_
            refine r_iinc2 C (pc := 100) rfl d_M_layGreat_100 ?_
            refine r_goto C (pc := 103) (tgt := 16) d_M_layGreat_103 (by decide) ?_
            first
            | exact absurd c85 c58
            | exact absurd c58 c85
            | (refine r_weak ?_ (ih (j + 1) _ (by omega) (fun a i q => by show (zI _ _ _ _).1 a i = _; rw [zI_o q]; exact g1 a i q) (fun a i q => by rw [zJ_at, if_neg q]; exact g2 a i q) (by rw [zJ_same, es, hab, if_neg c58_]) (by show (zI _ _ _ _).1 26 b = _; rw [zI_same, es, hab, if_neg c58_]) (by omega)); exact ⟨Or.inr rfl, Or.inr rfl, Or.inr rfl, Or.inl rfl, Or.inl rfl, trivial⟩)
        · have c58_ := Int64.not_le.mp c58
          refine r_ild2 C (pc := 62) d_M_layGreat_62 ?_
          refine r_goto C (pc := 63) (tgt := 72) d_M_layGreat_63 (by decide) ?_
          refine M_iastN C (pc := 72) hS (b) (by omega) rfl (by decide) (by omega) (by decide)  d_M_layGreat_72 ?_
          refine r_ald0 C (pc := 73) d_M_layGreat_73 ?_
          refine gM_M_great C (pc := 74) hS k_663 d_M_layGreat_74 ?_
          refine r_ild1 C (pc := 77) d_M_layGreat_77 ?_
          refine r_lld3 C (pc := 78) d_M_layGreat_78 ?_
          refine r_ald0 C (pc := 79) d_M_layGreat_79 ?_
          refine gM_M_great C (pc := 80) hS k_663 d_M_layGreat_80 ?_
          refine r_ild1 C (pc := 83) d_M_layGreat_83 ?_
          refine M_laldN C (pc := 84) hS (b) (by omega) rfl (by decide) (by omega) (by decide) d_M_layGreat_84 ?_
          rw [zI_2, g3]
          refine r_lcmp_le C (pc := 85) (tgt := 93) d_M_layGreat_85 d_M_layGreat_86 (by decide) (fun c85 => ?_) (fun c85 => ?_)
          · refine r_ald0 C (pc := 93) d_M_layGreat_93 ?_
            refine gM_M_great C (pc := 94) hS k_663 d_M_layGreat_94 ?_
            refine r_ild1 C (pc := 97) d_M_layGreat_97 ?_
            refine M_laldN C (pc := 98) hS (b) (by omega) rfl (by decide) (by omega) (by decide) d_M_layGreat_98 ?_
            rw [zI_2, g3]
            refine M_lastN C (pc := 99) hS (b) (by omega) rfl (by decide) (by omega) (by decide)  d_M_layGreat_99 ?_
            refine r_iinc2 C (pc := 100) rfl d_M_layGreat_100 ?_
            refine r_goto C (pc := 103) (tgt := 16) d_M_layGreat_103 (by decide) ?_
            first
            | exact absurd c85 c58
            | exact absurd c58 c85
            | (refine r_weak ?_ (ih (j + 1) _ (by omega) (fun a i q => by show (zI _ _ _ _).1 a i = _; rw [zI_o q]; exact g1 a i q) (fun a i q => by rw [zJ_at, if_neg q]; exact g2 a i q) (by rw [zJ_same, es, hab, if_pos c58_]) (by show (zI _ _ _ _).1 26 b = _; rw [zI_same, es, hab, if_pos c58_]) (by omega)); exact ⟨Or.inr rfl, Or.inr rfl, Or.inr rfl, Or.inl rfl, Or.inl rfl, trivial⟩)
          · refine r_lld3 C (pc := 89) d_M_layGreat_89 ?_
            refine r_goto C (pc := 90) (tgt := 99) d_M_layGreat_90 (by decide) ?_
            refine M_lastN C (pc := 99) hS (b) (by omega) rfl (by decide) (by omega) (by decide)  d_M_layGreat_99 ?_
            refine r_iinc2 C (pc := 100) rfl d_M_layGreat_100 ?_
            refine r_goto C (pc := 103) (tgt := 16) d_M_layGreat_103 (by decide) ?_
            first
            | exact absurd c85 c58
            | exact absurd c58 c85
            | (refine r_weak ?_ (ih (j + 1) _ (by omega) (fun a i q => by show (zI _ _ _ _).1 a i = _; rw [zI_o q]; exact g1 a i q) (fun a i q => by rw [zJ_at, if_neg q]; exact g2 a i q) (by rw [zJ_same, es, hab, if_pos c58_]) (by show (zI _ _ _ _).1 26 b = _; rw [zI_same, es, hab, if_pos c58_]) (by omega)); exact ⟨Or.inr rfl, Or.inr rfl, Or.inr rfl, Or.inl rfl, Or.inl rfl, trivial⟩)
      · have hab : ab ((bd S f (M.2 24 (2 * b)) (M.2 24 (2 * b + 1)) b) j) = -((bd S f (M.2 24 (2 * b)) (M.2 24 (2 * b + 1)) b) j) := by unfold ab; rw [if_pos (Int64.not_le.mp c35)]
        refine r_lld3 C (pc := 39) d_M_layGreat_39 ?_
        refine r_lneg C (pc := 40) rfl d_M_layGreat_40 ?_
        refine r_goto C (pc := 41) (tgt := 45) d_M_layGreat_41 (by decide) ?_
        refine r_lst3 C (pc := 45) rfl d_M_layGreat_45 ?_
        refine r_ald0 C (pc := 46) d_M_layGreat_46 ?_
        refine gM_M_greatPlace C (pc := 47) hS k_664 d_M_layGreat_47 ?_
        refine r_ild1 C (pc := 50) d_M_layGreat_50 ?_
        refine r_lld3 C (pc := 51) d_M_layGreat_51 ?_
        refine r_ald0 C (pc := 52) d_M_layGreat_52 ?_
        refine gM_M_great C (pc := 53) hS k_663 d_M_layGreat_53 ?_
        refine r_ild1 C (pc := 56) d_M_layGreat_56 ?_
        refine M_laldN C (pc := 57) hS (b) (by omega) rfl (by decide) (by omega) (by decide) d_M_layGreat_57 ?_
        rw [g3]
        refine r_lcmp_le C (pc := 58) (tgt := 66) d_M_layGreat_58 d_M_layGreat_59 (by decide) (fun c58 => ?_) (fun c58 => ?_)
        · have c58_ := Int64.not_lt.mpr c58
          refine r_ald0 C (pc := 66) d_M_layGreat_66 ?_
          refine gM_M_greatPlace C (pc := 67) hS k_664 d_M_layGreat_67 ?_
          refine r_ild1 C (pc := 70) d_M_layGreat_70 ?_
          refine M_ialdN C (pc := 71) hS (b) (by omega) rfl (by decide) (by omega) (by decide) d_M_layGreat_71 ?_
          rw [g4]
          refine M_iastN C (pc := 72) hS (b) (by omega) rfl (by decide) (by omega) (by decide)  d_M_layGreat_72 ?_
          refine r_ald0 C (pc := 73) d_M_layGreat_73 ?_
          refine gM_M_great C (pc := 74) hS k_663 d_M_layGreat_74 ?_
          refine r_ild1 C (pc := 77) d_M_layGreat_77 ?_
          refine r_lld3 C (pc := 78) d_M_layGreat_78 ?_
          refine r_ald0 C (pc := 79) d_M_layGreat_79 ?_
          refine gM_M_great C (pc := 80) hS k_663 d_M_layGreat_80 ?_
          refine r_ild1 C (pc := 83) d_M_layGreat_83 ?_
          refine M_laldN C (pc := 84) hS (b) (by omega) rfl (by decide) (by omega) (by decide) d_M_layGreat_84 ?_
          rw [zI_2, g3]
          refine r_lcmp_le C (pc := 85) (tgt := 93) d_M_layGreat_85 d_M_layGreat_86 (by decide) (fun c85 => ?_) (fun c85 => ?_)
          · refine r_ald0 C (pc := 93) d_M_layGreat_93 ?_
            refine gM_M_great C (pc := 94) hS k_663 d_M_layGreat_94 ?_
            refine r_ild1 C (pc := 97) d_M_layGreat_97 ?_
            refine M_laldN C (pc := 98) hS (b) (by omega) rfl (by decide) (by omega) (by decide) d_M_layGreat_98 ?_
            rw [zI_2, g3]
            refine M_lastN C (pc := 99) hS (b) (by omega) rfl (by decide) (by omega) (by decide)  d_M_layGreat_99 ?_
            refine r_iinc2 C (pc := 100) rfl d_M_layGreat_100 ?_
            refine r_goto C (pc := 103) (tgt := 16) d_M_layGreat_103 (by decide) ?_
            first
            | exact absurd c85 c58
            | exact absurd c58 c85
            | (refine r_weak ?_ (ih (j + 1) _ (by omega) (fun a i q => by show (zI _ _ _ _).1 a i = _; rw [zI_o q]; exact g1 a i q) (fun a i q => by rw [zJ_at, if_neg q]; exact g2 a i q) (by rw [zJ_same, es, hab, if_neg c58_]) (by show (zI _ _ _ _).1 26 b = _; rw [zI_same, es, hab, if_neg c58_]) (by omega)); exact ⟨Or.inr rfl, Or.inr rfl, Or.inr rfl, Or.inl rfl, Or.inl rfl, trivial⟩)
          · refine r_lld3 C (pc := 89) d_M_layGreat_89 ?_
            refine r_goto C (pc := 90) (tgt := 99) d_M_layGreat_90 (by decide) ?_
            refine M_lastN C (pc := 99) hS (b) (by omega) rfl (by decide) (by omega) (by decide)  d_M_layGreat_99 ?_
            refine r_iinc2 C (pc := 100) rfl d_M_layGreat_100 ?_
            refine r_goto C (pc := 103) (tgt := 16) d_M_layGreat_103 (by decide) ?_
            first
            | exact absurd c85 c58
            | exact absurd c58 c85
            | (refine r_weak ?_ (ih (j + 1) _ (by omega) (fun a i q => by show (zI _ _ _ _).1 a i = _; rw [zI_o q]; exact g1 a i q) (fun a i q => by rw [zJ_at, if_neg q]; exact g2 a i q) (by rw [zJ_same, es, hab, if_neg c58_]) (by show (zI _ _ _ _).1 26 b = _; rw [zI_same, es, hab, if_neg c58_]) (by omega)); exact ⟨Or.inr rfl, Or.inr rfl, Or.inr rfl, Or.inl rfl, Or.inl rfl, trivial⟩)
        · have c58_ := Int64.not_le.mp c58
          refine r_ild2 C (pc := 62) d_M_layGreat_62 ?_
          refine r_goto C (pc := 63) (tgt := 72) d_M_layGreat_63 (by decide) ?_
          refine M_iastN C (pc := 72) hS (b) (by omega) rfl (by decide) (by omega) (by decide)  d_M_layGreat_72 ?_
          refine r_ald0 C (pc := 73) d_M_layGreat_73 ?_
          refine gM_M_great C (pc := 74) hS k_663 d_M_layGreat_74 ?_
          refine r_ild1 C (pc := 77) d_M_layGreat_77 ?_
          refine r_lld3 C (pc := 78) d_M_layGreat_78 ?_
          refine r_ald0 C (pc := 79) d_M_layGreat_79 ?_
          refine gM_M_great C (pc := 80) hS k_663 d_M_layGreat_80 ?_
          refine r_ild1 C (pc := 83) d_M_layGreat_83 ?_
          refine M_laldN C (pc := 84) hS (b) (by omega) rfl (by decide) (by omega) (by decide) d_M_layGreat_84 ?_
          rw [zI_2, g3]
          refine r_lcmp_le C (pc := 85) (tgt := 93) d_M_layGreat_85 d_M_layGreat_86 (by decide) (fun c85 => ?_) (fun c85 => ?_)
          · refine r_ald0 C (pc := 93) d_M_layGreat_93 ?_
            refine gM_M_great C (pc := 94) hS k_663 d_M_layGreat_94 ?_
            refine r_ild1 C (pc := 97) d_M_layGreat_97 ?_
            refine M_laldN C (pc := 98) hS (b) (by omega) rfl (by decide) (by omega) (by decide) d_M_layGreat_98 ?_
            rw [zI_2, g3]
            refine M_lastN C (pc := 99) hS (b) (by omega) rfl (by decide) (by omega) (by decide)  d_M_layGreat_99 ?_
            refine r_iinc2 C (pc := 100) rfl d_M_layGreat_100 ?_
            refine r_goto C (pc := 103) (tgt := 16) d_M_layGreat_103 (by decide) ?_
            first
            | exact absurd c85 c58
            | exact absurd c58 c85
            | (refine r_weak ?_ (ih (j + 1) _ (by omega) (fun a i q => by show (zI _ _ _ _).1 a i = _; rw [zI_o q]; exact g1 a i q) (fun a i q => by rw [zJ_at, if_neg q]; exact g2 a i q) (by rw [zJ_same, es, hab, if_pos c58_]) (by show (zI _ _ _ _).1 26 b = _; rw [zI_same, es, hab, if_pos c58_]) (by omega)); exact ⟨Or.inr rfl, Or.inr rfl, Or.inr rfl, Or.inl rfl, Or.inl rfl, trivial⟩)
          · refine r_lld3 C (pc := 89) d_M_layGreat_89 ?_
            refine r_goto C (pc := 90) (tgt := 99) d_M_layGreat_90 (by decide) ?_
            refine M_lastN C (pc := 99) hS (b) (by omega) rfl (by decide) (by omega) (by decide)  d_M_layGreat_99 ?_
            refine r_iinc2 C (pc := 100) rfl d_M_layGreat_100 ?_
            refine r_goto C (pc := 103) (tgt := 16) d_M_layGreat_103 (by decide) ?_
            first
            | exact absurd c85 c58
            | exact absurd c58 c85
            | (refine r_weak ?_ (ih (j + 1) _ (by omega) (fun a i q => by show (zI _ _ _ _).1 a i = _; rw [zI_o q]; exact g1 a i q) (fun a i q => by rw [zJ_at, if_neg q]; exact g2 a i q) (by rw [zJ_same, es, hab, if_pos c58_]) (by show (zI _ _ _ _).1 26 b = _; rw [zI_same, es, hab, if_pos c58_]) (by omega)); exact ⟨Or.inr rfl, Or.inr rfl, Or.inr rfl, Or.inl rfl, Or.inl rfl, trivial⟩)
set_option maxRecDepth 20000 in
theorem c_M_layGreat (l : Launch) (E : zE) (M : zM) (S : zS) (hR : RM S M) (hO : ok S) (b : Nat) (hb : b < S.1 0) (f : Nat → Int64) (hf : ∀ p, p < 61 → M.2 23 (61 * b + p) = f p) : zK l sM E y_M_layGreat b_M_layGreat 5 none 1 25 [.ref (E.2.2 0), .int (iI (b : Int))] M (zPv (fun M2 => (∀ a i, ¬ (a = 26 ∧ i = b) → M2.1 a i = M.1 a i) ∧ (∀ a i, ¬ (a = 25 ∧ i = b) → M2.2 a i = M.2 a i) ∧ M2.2 25 b = (grN (bd S f (M.2 24 (2 * b)) (M.2 24 (2 * b + 1)) b) ((S.2 2 b 1).toNat + 1)).1 ∧ M2.1 26 b = ((grN (bd S f (M.2 24 (2 * b)) (M.2 24 (2 * b + 1)) b) ((S.2 2 b 1).toNat + 1)).2 : Int))) := by
  refine zK.of "OldBeamsModel" rfl (by decide) (Nat.le_of_ble_eq_true rfl) ?_
  intro G hS hE hQ hL C
  subst hE
  subst hL
  show VJ G M 0 [some (.ref (G.2.1.2.2 0)), some (.int (iI (b : Int))), none, none, none] []
  have h12 := hO.n
  refine r_ald0 C (pc := 0) d_M_layGreat_0 ?_
  refine gM_M_great C (pc := 1) hS k_663 d_M_layGreat_1 ?_
  refine r_ild1 C (pc := 4) d_M_layGreat_4 ?_
  refine r_lconst C (pc := 5) (v := 0) rfl d_M_layGreat_5 ?_
  refine M_lastN C (pc := 6) hS (b) (by omega) rfl (by decide) (by omega) (by decide)  d_M_layGreat_6 ?_
  refine r_ald0 C (pc := 7) d_M_layGreat_7 ?_
  refine gM_M_greatPlace C (pc := 8) hS k_664 d_M_layGreat_8 ?_
  refine r_ild1 C (pc := 11) d_M_layGreat_11 ?_
  refine r_iconst C (pc := 12) d_M_layGreat_12 ?_
  refine M_iastN C (pc := 13) hS (b) (by omega) rfl (by decide) (by omega) (by decide)  d_M_layGreat_13 ?_
  refine r_iconst C (pc := 14) d_M_layGreat_14 ?_
  refine r_ist2 C (pc := 15) rfl d_M_layGreat_15 ?_
  exact l_M_layGreat_16 C hS M S hR hO b hb f hf hQ ((S.2 2 b 1).toNat + 2) 0 _ (by omega) (fun a i q => by show (zI _ _ _ _).1 a i = _; rw [zI_o q]; rfl) (fun a i q => by show (zJ _ _ _ _).2 a i = _; rw [zJ_at, if_neg q]) (zJ_same _ _ _ _) (zI_same _ _ _ _) (by omega)
set_option maxRecDepth 20000 in
theorem l_M_layPush_125 {G : zG} (C : zC G b_M_layPush "OldBeamsModel" none 7 1 25) (hS : G.1 = sM) (M : zM) (S : zS) (hR : RM S M) (hO : ok S) (b : Nat) (hb : b < S.1 0) (F : Nat → Nat → Int64) (hG : hGm F M) (hQ : G.2.2.1 = zPv (fun M2 => M2.1 = M.1 ∧ hGm (stp S F b) M2 ∧ (∀ i, M2.2 24 i = if i = 2 * b then p0 S F b else if i = 2 * b + 1 then p1 S F b else M.2 24 i) ∧ ∀ a, a ≠ 23 → a ≠ 24 → M2.2 a = M.2 a)) : ∀ (N : zM), (N.1 = M.1) → (hGm F N) → (∀ i, N.2 24 i = if i = 2 * b then p0 S F b else if i = 2 * b + 1 then p1 S F b else M.2 24 i) → (∀ a, a ≠ 23 → a ≠ 24 → N.2 a = M.2 a) → VJ G N 125 [some (.ref (zad G 0)), some (.int (iI (b : Int))), none, none, none, none, none] [] := by
  intro N g1 g2 g3 g4
  have h12 := hO.n
  obtain ⟨-, hl6, -, -, hpl0, hpl1, hpl, ho0, ho1⟩ := hO.2.2.1 b hb
  obtain ⟨⟨-, e1, -⟩, hrs⟩ := hR.2.2.1 b hb
  have hq0 : M.1 9 (2 * b) = S.2 3 b 0 := (hrs 0 (by omega)).1
  have hq1 : M.1 9 (2 * b + 1) = S.2 3 b 1 := (hrs 1 (by omega)).1
  have hs0 : N.1 10 (2 * b) = S.2 4 b 0 := by rw [g1]; exact (hrs 0 (by omega)).2.1
  have hs1 : N.1 10 (2 * b + 1) = S.2 4 b 1 := by rw [g1]; exact (hrs 1 (by omega)).2.1
  have hw0 : S.2 4 b 0 ≠ -900009 → N.1 11 (2 * b) = S.2 5 b 0 := by rw [g1]; exact (hrs 0 (by omega)).2.2
  have hw1 : S.2 4 b 1 ≠ -900009 → N.1 11 (2 * b + 1) = S.2 5 b 1 := by rw [g1]; exact (hrs 1 (by omega)).2.2
  have hz0 : N.2 24 (2 * b) = p0 S F b := by rw [g3, if_pos rfl]
  have hz1 : N.2 24 (2 * b + 1) = p1 S F b := by rw [g3, if_neg (by omega), if_pos rfl]
  have hL0 : S.2 4 b 0 ≠ -900009 → 0 ≤ S.2 4 b 0 ∧ S.2 4 b 0 < 12 ∧ 0 ≤ S.2 5 b 0 ∧ S.2 5 b 0 ≤ 60 := fun q => by
    rcases ho0 with z | z
    · exact absurd z q
    · have := (hO.2.2.1 (S.2 4 b 0).toNat (by omega)).2.1
      omega
  have hL1 : S.2 4 b 1 ≠ -900009 → 0 ≤ S.2 4 b 1 ∧ S.2 4 b 1 < 12 ∧ 0 ≤ S.2 5 b 1 ∧ S.2 5 b 1 ≤ 60 := fun q => by
    rcases ho1 with z | z
    · exact absurd z q
    · have := (hO.2.2.1 (S.2 4 b 1).toNat (by omega)).2.1
      omega
  refine r_iconst C (pc := 125) d_M_layPush_125 ?_
  refine r_ild1 C (pc := 126) d_M_layPush_126 ?_
  refine r_imul C (pc := 127) d_M_layPush_127 ?_
  refine r_ist6 C (pc := 128) rfl d_M_layPush_128 ?_
  refine r_ild6 C (pc := 130) d_M_layPush_130 ?_
  refine r_iconst C (pc := 132) d_M_layPush_132 ?_
  refine r_ild1 C (pc := 133) d_M_layPush_133 ?_
  refine r_imul C (pc := 134) d_M_layPush_134 ?_
  refine r_iconst C (pc := 135) d_M_layPush_135 ?_
  refine r_iadd C (pc := 136) d_M_layPush_136 ?_
  refine r_icmp_ge C (pc := 137) (tgt := 191) (by omega) (by omega) d_M_layPush_137 (by decide) (fun c137 => ?_) (fun c137 => ?_)
  · exact absurd c137 (by omega)
  · refine r_ald0 C (pc := 140) d_M_layPush_140 ?_
    refine gM_M_seatOn C (pc := 141) hS k_646 d_M_layPush_141 ?_
    refine r_ild6 C (pc := 144) d_M_layPush_144 ?_
    refine M_ialdN C (pc := 146) hS ((2 * b)) (by omega) rfl (by decide) (by omega) (by decide) d_M_layPush_146 ?_
    first | rw [hs0] | rw [zJ_1, hs1] | rw [hs1]
    refine r_ldc C (pc := 147) (z := (-900009)) k_796 rfl d_M_layPush_147 ?_
    refine r_icmp_eq C (pc := 149) (tgt := 185) (by omega) (by omega) d_M_layPush_149 (by decide) (fun c149 => ?_) (fun c149 => ?_)
    · refine r_iinc6 C (pc := 185) rfl d_M_layPush_185 ?_
      refine r_goto C (pc := 188) (tgt := 130) d_M_layPush_188 (by decide) ?_
      refine r_ild6 C (pc := 130) d_M_layPush_130 ?_
      refine r_iconst C (pc := 132) d_M_layPush_132 ?_
      refine r_ild1 C (pc := 133) d_M_layPush_133 ?_
      refine r_imul C (pc := 134) d_M_layPush_134 ?_
      refine r_iconst C (pc := 135) d_M_layPush_135 ?_
      refine r_iadd C (pc := 136) d_M_layPush_136 ?_
      refine r_icmp_ge C (pc := 137) (tgt := 191) (by omega) (by omega) d_M_layPush_137 (by decide) (fun c137b => ?_) (fun c137b => ?_)
      · exact absurd c137b (by omega)
      · refine r_ald0 C (pc := 140) d_M_layPush_140 ?_
        refine gM_M_seatOn C (pc := 141) hS k_646 d_M_layPush_141 ?_
        refine r_ild6 C (pc := 144) d_M_layPush_144 ?_
        refine M_ialdN C (pc := 146) hS (((2 * b) + 1)) (by omega) rfl (by decide) (by omega) (by decide) d_M_layPush_146 ?_
        first | rw [hs0] | rw [zJ_1, hs1] | rw [hs1]
        refine r_ldc C (pc := 147) (z := (-900009)) k_796 rfl d_M_layPush_147 ?_
        refine r_icmp_eq C (pc := 149) (tgt := 185) (by omega) (by omega) d_M_layPush_149 (by decide) (fun c149b => ?_) (fun c149b => ?_)
        · refine r_iinc6 C (pc := 185) rfl d_M_layPush_185 ?_
          refine r_goto C (pc := 188) (tgt := 130) d_M_layPush_188 (by decide) ?_
          refine r_ild6 C (pc := 130) d_M_layPush_130 ?_
          refine r_iconst C (pc := 132) d_M_layPush_132 ?_
          refine r_ild1 C (pc := 133) d_M_layPush_133 ?_
          refine r_imul C (pc := 134) d_M_layPush_134 ?_
          refine r_iconst C (pc := 135) d_M_layPush_135 ?_
          refine r_iadd C (pc := 136) d_M_layPush_136 ?_
          refine r_icmp_ge C (pc := 137) (tgt := 191) (by omega) (by omega) d_M_layPush_137 (by decide) (fun c137c => ?_) (fun c137c => ?_)
          · exact r_vret C (pc := 191) hQ (by
      refine ⟨g1, ?_, ?_, ?_⟩
      · unfold stp
        first
        | (rw [c149, c149b, adF_no, adF_no]; exact g2)
        | (rw [c149, adF_no]; exact hGm_ad g2 (by omega) (by omega))
        | (rw [c149b, adF_no]; exact hGm_ad g2 (by omega) (by omega))
        | exact hGm_ad (hGm_ad g2 (by have := hL0 c149; omega) (by have := hL0 c149; omega)) (by omega) (by omega)
      · intro i
        first
        | exact g3 i
        | (rw [zJ_ne (by decide)]; exact g3 i)
        | (rw [zJ_ne (by decide), zJ_ne (by decide)]; exact g3 i)
      · intro a q q2
        first
        | exact g4 a q q2
        | (rw [zJ_fn q]; exact g4 a q q2)
        | (rw [zJ_fn q, zJ_fn q]; exact g4 a q q2)) d_M_layPush_191
          · exact absurd c137c (by omega)
        · first | have hl := hL1 c149b | have hl := hL0 c149
          refine r_ald0 C (pc := 152) d_M_layPush_152 ?_
          refine gM_M_forces C (pc := 153) hS k_661 d_M_layPush_153 ?_
          refine r_bipush C (pc := 156) (n := 61) rfl d_M_layPush_156 ?_
          refine r_ald0 C (pc := 158) d_M_layPush_158 ?_
          refine gM_M_seatOn C (pc := 159) hS k_646 d_M_layPush_159 ?_
          refine r_ild6 C (pc := 162) d_M_layPush_162 ?_
          refine M_ialdN C (pc := 164) hS (((2 * b) + 1)) (by omega) rfl (by decide) (by omega) (by decide) d_M_layPush_164 ?_
          first | rw [hs0] | rw [zJ_1, hs1] | rw [hs1]
          refine r_imul C (pc := 165) d_M_layPush_165 ?_
          refine r_ald0 C (pc := 166) d_M_layPush_166 ?_
          refine gM_M_seatWhere C (pc := 167) hS k_647 d_M_layPush_167 ?_
          refine r_ild6 C (pc := 170) d_M_layPush_170 ?_
          refine M_ialdN C (pc := 172) hS (((2 * b) + 1)) (by omega) rfl (by decide) (by omega) (by decide) d_M_layPush_172 ?_
          first | rw [hw0 c149] | rw [zJ_1, hw1 c149b] | rw [hw1 c149b]
          refine r_iadd C (pc := 173) d_M_layPush_173 ?_
          refine r_dup2 C (pc := 174) rfl rfl d_M_layPush_174 ?_
          refine M_lald C (pc := 175) hS rfl (by decide) (by omega) (by omega) (by decide) d_M_layPush_175 ?_
          refine r_ald0 C (pc := 176) d_M_layPush_176 ?_
          refine gM_M_push C (pc := 177) hS k_662 d_M_layPush_177 ?_
          refine r_ild6 C (pc := 180) d_M_layPush_180 ?_
          refine M_laldN C (pc := 182) hS (((2 * b) + 1)) (by omega) rfl (by decide) (by omega) (by decide) d_M_layPush_182 ?_
          first | rw [hz0] | rw [zJ_ne (by decide), hz1] | rw [hz1]
          refine r_ladd C (pc := 183) d_M_layPush_183 ?_
          refine M_last C (pc := 184) hS rfl (by decide) (by omega) (by omega) (by decide)  d_M_layPush_184 ?_
          refine r_iinc6 C (pc := 185) rfl d_M_layPush_185 ?_
          refine r_goto C (pc := 188) (tgt := 130) d_M_layPush_188 (by decide) ?_
          refine r_ild6 C (pc := 130) d_M_layPush_130 ?_
          refine r_iconst C (pc := 132) d_M_layPush_132 ?_
          refine r_ild1 C (pc := 133) d_M_layPush_133 ?_
          refine r_imul C (pc := 134) d_M_layPush_134 ?_
          refine r_iconst C (pc := 135) d_M_layPush_135 ?_
          refine r_iadd C (pc := 136) d_M_layPush_136 ?_
          refine r_icmp_ge C (pc := 137) (tgt := 191) (by omega) (by omega) d_M_layPush_137 (by decide) (fun c137c => ?_) (fun c137c => ?_)
          · exact r_vret C (pc := 191) hQ (by
      refine ⟨g1, ?_, ?_, ?_⟩
      · unfold stp
        first
        | (rw [c149, c149b, adF_no, adF_no]; exact g2)
        | (rw [c149, adF_no]; exact hGm_ad g2 (by omega) (by omega))
        | (rw [c149b, adF_no]; exact hGm_ad g2 (by omega) (by omega))
        | exact hGm_ad (hGm_ad g2 (by have := hL0 c149; omega) (by have := hL0 c149; omega)) (by omega) (by omega)
      · intro i
        first
        | exact g3 i
        | (rw [zJ_ne (by decide)]; exact g3 i)
        | (rw [zJ_ne (by decide), zJ_ne (by decide)]; exact g3 i)
      · intro a q q2
        first
        | exact g4 a q q2
        | (rw [zJ_fn q]; exact g4 a q q2)
        | (rw [zJ_fn q, zJ_fn q]; exact g4 a q q2)) d_M_layPush_191
          · exact absurd c137c (by omega)
    · first | have hl := hL1 c149b | have hl := hL0 c149
      refine r_ald0 C (pc := 152) d_M_layPush_152 ?_
      refine gM_M_forces C (pc := 153) hS k_661 d_M_layPush_153 ?_
      refine r_bipush C (pc := 156) (n := 61) rfl d_M_layPush_156 ?_
      refine r_ald0 C (pc := 158) d_M_layPush_158 ?_
      refine gM_M_seatOn C (pc := 159) hS k_646 d_M_layPush_159 ?_
      refine r_ild6 C (pc := 162) d_M_layPush_162 ?_
      refine M_ialdN C (pc := 164) hS ((2 * b)) (by omega) rfl (by decide) (by omega) (by decide) d_M_layPush_164 ?_
      first | rw [hs0] | rw [zJ_1, hs1] | rw [hs1]
      refine r_imul C (pc := 165) d_M_layPush_165 ?_
      refine r_ald0 C (pc := 166) d_M_layPush_166 ?_
      refine gM_M_seatWhere C (pc := 167) hS k_647 d_M_layPush_167 ?_
      refine r_ild6 C (pc := 170) d_M_layPush_170 ?_
      refine M_ialdN C (pc := 172) hS ((2 * b)) (by omega) rfl (by decide) (by omega) (by decide) d_M_layPush_172 ?_
      first | rw [hw0 c149] | rw [zJ_1, hw1 c149b] | rw [hw1 c149b]
      refine r_iadd C (pc := 173) d_M_layPush_173 ?_
      refine r_dup2 C (pc := 174) rfl rfl d_M_layPush_174 ?_
      refine M_lald C (pc := 175) hS rfl (by decide) (by omega) (by omega) (by decide) d_M_layPush_175 ?_
      refine r_ald0 C (pc := 176) d_M_layPush_176 ?_
      refine gM_M_push C (pc := 177) hS k_662 d_M_layPush_177 ?_
      refine r_ild6 C (pc := 180) d_M_layPush_180 ?_
      refine M_laldN C (pc := 182) hS ((2 * b)) (by omega) rfl (by decide) (by omega) (by decide) d_M_layPush_182 ?_
      first | rw [hz0] | rw [zJ_ne (by decide), hz1] | rw [hz1]
      refine r_ladd C (pc := 183) d_M_layPush_183 ?_
      refine M_last C (pc := 184) hS rfl (by decide) (by omega) (by omega) (by decide)  d_M_layPush_184 ?_
      refine r_iinc6 C (pc := 185) rfl d_M_layPush_185 ?_
      refine r_goto C (pc := 188) (tgt := 130) d_M_layPush_188 (by decide) ?_
      refine r_ild6 C (pc := 130) d_M_layPush_130 ?_
      refine r_iconst C (pc := 132) d_M_layPush_132 ?_
      refine r_ild1 C (pc := 133) d_M_layPush_133 ?_
      refine r_imul C (pc := 134) d_M_layPush_134 ?_
      refine r_iconst C (pc := 135) d_M_layPush_135 ?_
      refine r_iadd C (pc := 136) d_M_layPush_136 ?_
      refine r_icmp_ge C (pc := 137) (tgt := 191) (by omega) (by omega) d_M_layPush_137 (by decide) (fun c137b => ?_) (fun c137b => ?_)
      · exact absurd c137b (by omega)
      · refine r_ald0 C (pc := 140) d_M_layPush_140 ?_
        refine gM_M_seatOn C (pc := 141) hS k_646 d_M_layPush_141 ?_
        refine r_ild6 C (pc := 144) d_M_layPush_144 ?_
        refine M_ialdN C (pc := 146) hS (((2 * b) + 1)) (by omega) rfl (by decide) (by omega) (by decide) d_M_layPush_146 ?_
        first | rw [hs0] | rw [zJ_1, hs1] | rw [hs1]
        refine r_ldc C (pc := 147) (z := (-900009)) k_796 rfl d_M_layPush_147 ?_
        refine r_icmp_eq C (pc := 149) (tgt := 185) (by omega) (by omega) d_M_layPush_149 (by decide) (fun c149b => ?_) (fun c149b => ?_)
        · refine r_iinc6 C (pc := 185) rfl d_M_layPush_185 ?_
          refine r_goto C (pc := 188) (tgt := 130) d_M_layPush_188 (by decide) ?_
          refine r_ild6 C (pc := 130) d_M_layPush_130 ?_
          refine r_iconst C (pc := 132) d_M_layPush_132 ?_
          refine r_ild1 C (pc := 133) d_M_layPush_133 ?_
          refine r_imul C (pc := 134) d_M_layPush_134 ?_
          refine r_iconst C (pc := 135) d_M_layPush_135 ?_
          refine r_iadd C (pc := 136) d_M_layPush_136 ?_
          refine r_icmp_ge C (pc := 137) (tgt := 191) (by omega) (by omega) d_M_layPush_137 (by decide) (fun c137c => ?_) (fun c137c => ?_)
          · exact r_vret C (pc := 191) hQ (by
      refine ⟨g1, ?_, ?_, ?_⟩
      · unfold stp
        first
        | (rw [c149, c149b, adF_no, adF_no]; exact g2)
        | (rw [c149, adF_no]; exact hGm_ad g2 (by omega) (by omega))
        | (rw [c149b, adF_no]; exact hGm_ad g2 (by omega) (by omega))
        | exact hGm_ad (hGm_ad g2 (by have := hL0 c149; omega) (by have := hL0 c149; omega)) (by omega) (by omega)
      · intro i
        first
        | exact g3 i
        | (rw [zJ_ne (by decide)]; exact g3 i)
        | (rw [zJ_ne (by decide), zJ_ne (by decide)]; exact g3 i)
      · intro a q q2
        first
        | exact g4 a q q2
        | (rw [zJ_fn q]; exact g4 a q q2)
        | (rw [zJ_fn q, zJ_fn q]; exact g4 a q q2)) d_M_layPush_191
          · exact absurd c137c (by omega)
        · first | have hl := hL1 c149b | have hl := hL0 c149
          refine r_ald0 C (pc := 152) d_M_layPush_152 ?_
          refine gM_M_forces C (pc := 153) hS k_661 d_M_layPush_153 ?_
          refine r_bipush C (pc := 156) (n := 61) rfl d_M_layPush_156 ?_
          refine r_ald0 C (pc := 158) d_M_layPush_158 ?_
          refine gM_M_seatOn C (pc := 159) hS k_646 d_M_layPush_159 ?_
          refine r_ild6 C (pc := 162) d_M_layPush_162 ?_
          refine M_ialdN C (pc := 164) hS (((2 * b) + 1)) (by omega) rfl (by decide) (by omega) (by decide) d_M_layPush_164 ?_
          first | rw [hs0] | rw [zJ_1, hs1] | rw [hs1]
          refine r_imul C (pc := 165) d_M_layPush_165 ?_
          refine r_ald0 C (pc := 166) d_M_layPush_166 ?_
          refine gM_M_seatWhere C (pc := 167) hS k_647 d_M_layPush_167 ?_
          refine r_ild6 C (pc := 170) d_M_layPush_170 ?_
          refine M_ialdN C (pc := 172) hS (((2 * b) + 1)) (by omega) rfl (by decide) (by omega) (by decide) d_M_layPush_172 ?_
          first | rw [hw0 c149] | rw [zJ_1, hw1 c149b] | rw [hw1 c149b]
          refine r_iadd C (pc := 173) d_M_layPush_173 ?_
          refine r_dup2 C (pc := 174) rfl rfl d_M_layPush_174 ?_
          refine M_lald C (pc := 175) hS rfl (by decide) (by omega) (by omega) (by decide) d_M_layPush_175 ?_
          refine r_ald0 C (pc := 176) d_M_layPush_176 ?_
          refine gM_M_push C (pc := 177) hS k_662 d_M_layPush_177 ?_
          refine r_ild6 C (pc := 180) d_M_layPush_180 ?_
          refine M_laldN C (pc := 182) hS (((2 * b) + 1)) (by omega) rfl (by decide) (by omega) (by decide) d_M_layPush_182 ?_
          first | rw [hz0] | rw [zJ_ne (by decide), hz1] | rw [hz1]
          refine r_ladd C (pc := 183) d_M_layPush_183 ?_
          refine M_last C (pc := 184) hS rfl (by decide) (by omega) (by omega) (by decide)  d_M_layPush_184 ?_
          refine r_iinc6 C (pc := 185) rfl d_M_layPush_185 ?_
          refine r_goto C (pc := 188) (tgt := 130) d_M_layPush_188 (by decide) ?_
          refine r_ild6 C (pc := 130) d_M_layPush_130 ?_
          refine r_iconst C (pc := 132) d_M_layPush_132 ?_
          refine r_ild1 C (pc := 133) d_M_layPush_133 ?_
          refine r_imul C (pc := 134) d_M_layPush_134 ?_
          refine r_iconst C (pc := 135) d_M_layPush_135 ?_
          refine r_iadd C (pc := 136) d_M_layPush_136 ?_
          refine r_icmp_ge C (pc := 137) (tgt := 191) (by omega) (by omega) d_M_layPush_137 (by decide) (fun c137c => ?_) (fun c137c => ?_)
          · exact r_vret C (pc := 191) hQ (by
      refine ⟨g1, ?_, ?_, ?_⟩
      · unfold stp
        first
        | (rw [c149, c149b, adF_no, adF_no]; exact g2)
        | (rw [c149, adF_no]; exact hGm_ad g2 (by omega) (by omega))
        | (rw [c149b, adF_no]; exact hGm_ad g2 (by omega) (by omega))
        | exact hGm_ad (hGm_ad g2 (by have := hL0 c149; omega) (by have := hL0 c149; omega)) (by omega) (by omega)
      · intro i
        first
        | exact g3 i
        | (rw [zJ_ne (by decide)]; exact g3 i)
        | (rw [zJ_ne (by decide), zJ_ne (by decide)]; exact g3 i)
      · intro a q q2
        first
        | exact g4 a q q2
        | (rw [zJ_fn q]; exact g4 a q q2)
        | (rw [zJ_fn q, zJ_fn q]; exact g4 a q q2)) d_M_layPush_191
          · exact absurd c137c (by omega)
set_option maxRecDepth 20000 in
theorem l_M_layPush_8 {G : zG} (C : zC G b_M_layPush "OldBeamsModel" none 7 1 25) (hS : G.1 = sM) (M : zM) (S : zS) (hR : RM S M) (hO : ok S) (b : Nat) (hb : b < S.1 0) (F : Nat → Nat → Int64) (hG : hGm F M) (hQ : G.2.2.1 = zPv (fun M2 => M2.1 = M.1 ∧ hGm (stp S F b) M2 ∧ (∀ i, M2.2 24 i = if i = 2 * b then p0 S F b else if i = 2 * b + 1 then p1 S F b else M.2 24 i) ∧ ∀ a, a ≠ 23 → a ≠ 24 → M2.2 a = M.2 a)) : ∀ (n : Nat) (j : Nat), (j ≤ (S.2 2 b 1).toNat + 1) → ((S.2 2 b 1).toNat + 1 - j < n) → VJ G M 8 [some (.ref (zad G 0)), some (.int (iI (b : Int))), some (.long (sm (F b) j)), none, some (.long (sm (fun x => F b x * lI ((x : Int) - S.2 3 b 0)) j)), none, some (.int (iI (j : Int)))] [] := by
  intro n
  induction n with
  | zero =>
    intro j hj hn
    exact absurd hn (by omega)
  | succ n ih =>
    intro j hj hn
    have h12 := hO.n
    obtain ⟨-, hl6, -, -, hpl0, hpl1, hpl, ho0, ho1⟩ := hO.2.2.1 b hb
    obtain ⟨⟨-, e1, -⟩, hrs⟩ := hR.2.2.1 b hb
    have hq0 : M.1 9 (2 * b) = S.2 3 b 0 := (hrs 0 (by omega)).1
    have hq1 : M.1 9 (2 * b + 1) = S.2 3 b 1 := (hrs 1 (by omega)).1
    refine r_ild6 C (pc := 8) d_M_layPush_8 ?_
    refine r_ald0 C (pc := 10) d_M_layPush_10 ?_
    refine gM_M_length C (pc := 11) hS k_640 d_M_layPush_11 ?_
    refine r_ild1 C (pc := 14) d_M_layPush_14 ?_
    refine M_ialdN C (pc := 15) hS (b) (by omega) rfl (by decide) (by omega) (by decide) d_M_layPush_15 ?_
    rw [e1]
    refine r_icmp_gt C (pc := 16) (tgt := 70) (by omega) (by omega) d_M_layPush_16 (by decide) (fun c16 => ?_) (fun c16 => ?_)
    · have ej : j = (S.2 2 b 1).toNat + 1 := by omega
      subst ej
      refine r_ald0 C (pc := 70) d_M_layPush_70 ?_
      refine gM_M_push C (pc := 71) hS k_662 d_M_layPush_71 ?_
      refine r_iconst C (pc := 74) d_M_layPush_74 ?_
      refine r_ild1 C (pc := 75) d_M_layPush_75 ?_
      refine r_imul C (pc := 76) d_M_layPush_76 ?_
      refine r_iconst C (pc := 77) d_M_layPush_77 ?_
      refine r_iadd C (pc := 78) d_M_layPush_78 ?_
      refine r_lld4 C (pc := 79) d_M_layPush_79 ?_
      refine r_ald0 C (pc := 81) d_M_layPush_81 ?_
      refine gM_M_seatAt C (pc := 82) hS k_645 d_M_layPush_82 ?_
      refine r_iconst C (pc := 85) d_M_layPush_85 ?_
      refine r_ild1 C (pc := 86) d_M_layPush_86 ?_
      refine r_imul C (pc := 87) d_M_layPush_87 ?_
      refine r_iconst C (pc := 88) d_M_layPush_88 ?_
      refine r_iadd C (pc := 89) d_M_layPush_89 ?_
      refine M_ialdN C (pc := 90) hS (2 * b + 1) (by omega) rfl (by decide) (by omega) (by decide) d_M_layPush_90 ?_
      rw [hq1]
      refine r_ald0 C (pc := 91) d_M_layPush_91 ?_
      refine gM_M_seatAt C (pc := 92) hS k_645 d_M_layPush_92 ?_
      refine r_iconst C (pc := 95) d_M_layPush_95 ?_
      refine r_ild1 C (pc := 96) d_M_layPush_96 ?_
      refine r_imul C (pc := 97) d_M_layPush_97 ?_
      refine M_ialdN C (pc := 98) hS (2 * b) (by omega) rfl (by decide) (by omega) (by decide) d_M_layPush_98 ?_
      rw [hq0]
      refine r_isub C (pc := 99) d_M_layPush_99 ?_
      refine r_i2l C (pc := 100) (by omega) d_M_layPush_100 ?_
      refine call_M_cutDown C (pc := 101) hS (c_M_cutDown _ _ _ _ _ (show ¬ lI (S.2 3 b 1 - S.2 3 b 0) = 0 from fun q => absurd ((lI_eq (b := 0) (by omega) (by omega)).mp q) (by omega))) k_830 (by decide) (Nat.le_of_ble_eq_true rfl) rfl d_M_layPush_101 (kkL (fun r101 N101 h101 => ?_))
      obtain ⟨rfl, rfl⟩ := h101
      refine M_lastN C (pc := 104) hS (2 * b + 1) (by omega) rfl (by decide) (by omega) (by decide)  d_M_layPush_104 ?_
      refine r_ald0 C (pc := 105) d_M_layPush_105 ?_
      refine gM_M_push C (pc := 106) hS k_662 d_M_layPush_106 ?_
      refine r_iconst C (pc := 109) d_M_layPush_109 ?_
      refine r_ild1 C (pc := 110) d_M_layPush_110 ?_
      refine r_imul C (pc := 111) d_M_layPush_111 ?_
      refine r_lld2 C (pc := 112) d_M_layPush_112 ?_
      refine r_ald0 C (pc := 113) d_M_layPush_113 ?_
      refine gM_M_push C (pc := 114) hS k_662 d_M_layPush_114 ?_
      refine r_iconst C (pc := 117) d_M_layPush_117 ?_
      refine r_ild1 C (pc := 118) d_M_layPush_118 ?_
      refine r_imul C (pc := 119) d_M_layPush_119 ?_
      refine r_iconst C (pc := 120) d_M_layPush_120 ?_
      refine r_iadd C (pc := 121) d_M_layPush_121 ?_
      refine M_laldN C (pc := 122) hS (2 * b + 1) (by omega) rfl (by decide) (by omega) (by decide) d_M_layPush_122 ?_
      rw [zJ_same]
      refine r_lsub C (pc := 123) d_M_layPush_123 ?_
      refine M_lastN C (pc := 124) hS (2 * b) (by omega) rfl (by decide) (by omega) (by decide)  d_M_layPush_124 ?_
      refine r_weak ?_ (l_M_layPush_125 C hS M S hR hO b hb F hG hQ _ rfl (hGm_k (hGm_k hG (by decide)) (by decide)) (fun i => ?_) (fun a q q2 => (zJ_fn q2).trans (zJ_fn q2)))
      · exact ⟨Or.inr rfl, Or.inr rfl, Or.inl rfl, Or.inl rfl, Or.inl rfl, Or.inl rfl, Or.inl rfl, trivial⟩
      · rw [zJ_at, zJ_at]
        by_cases z0 : i = 2 * b
        · rw [if_pos ⟨rfl, z0⟩, if_pos z0]; rfl
        · rw [if_neg (fun z => z0 z.2), if_neg z0]
          by_cases z1 : i = 2 * b + 1
          · rw [if_pos ⟨rfl, z1⟩, if_pos z1]; rfl
          · rw [if_neg (fun z => z1 z.2), if_neg z1]
    · refine r_lld2 C (pc := 19) d_M_layPush_19 ?_
      refine r_ald0 C (pc := 20) d_M_layPush_20 ?_
      refine gM_M_forces C (pc := 21) hS k_661 d_M_layPush_21 ?_
      refine r_bipush C (pc := 24) (n := 61) rfl d_M_layPush_24 ?_
      refine r_ild1 C (pc := 26) d_M_layPush_26 ?_
      refine r_imul C (pc := 27) d_M_layPush_27 ?_
      refine r_ild6 C (pc := 28) d_M_layPush_28 ?_
      refine r_iadd C (pc := 30) d_M_layPush_30 ?_
      refine M_laldN C (pc := 31) hS (61 * b + j) (by omega) rfl (by decide) (by omega) (by decide) d_M_layPush_31 ?_
      rw [hG b (by omega) j (by omega)]
      refine r_ladd C (pc := 32) d_M_layPush_32 ?_
      refine r_lst2 C (pc := 33) rfl d_M_layPush_33 ?_
      refine r_lld4 C (pc := 34) d_M_layPush_34 ?_
      refine r_ald0 C (pc := 36) d_M_layPush_36 ?_
      refine gM_M_forces C (pc := 37) hS k_661 d_M_layPush_37 ?_
      refine r_bipush C (pc := 40) (n := 61) rfl d_M_layPush_40 ?_
      refine r_ild1 C (pc := 42) d_M_layPush_42 ?_
      refine r_imul C (pc := 43) d_M_layPush_43 ?_
      refine r_ild6 C (pc := 44) d_M_layPush_44 ?_
      refine r_iadd C (pc := 46) d_M_layPush_46 ?_
      refine M_laldN C (pc := 47) hS (61 * b + j) (by omega) rfl (by decide) (by omega) (by decide) d_M_layPush_47 ?_
      rw [hG b (by omega) j (by omega)]
      refine r_ild6 C (pc := 48) d_M_layPush_48 ?_
      refine r_ald0 C (pc := 50) d_M_layPush_50 ?_
      refine gM_M_seatAt C (pc := 51) hS k_645 d_M_layPush_51 ?_
      refine r_iconst C (pc := 54) d_M_layPush_54 ?_
      refine r_ild1 C (pc := 55) d_M_layPush_55 ?_
      refine r_imul C (pc := 56) d_M_layPush_56 ?_
      refine M_ialdN C (pc := 57) hS (2 * b) (by omega) rfl (by decide) (by omega) (by decide) d_M_layPush_57 ?_
      rw [hq0]
      refine r_isub C (pc := 58) d_M_layPush_58 ?_
      refine r_i2l C (pc := 59) (by omega) d_M_layPush_59 ?_
      refine r_lmul C (pc := 60) d_M_layPush_60 ?_
      refine r_ladd C (pc := 61) d_M_layPush_61 ?_
      refine r_lst4 C (pc := 62) rfl d_M_layPush_62 ?_
      refine r_iinc6 C (pc := 64) rfl d_M_layPush_64 ?_
      refine r_goto C (pc := 67) (tgt := 8) d_M_layPush_67 (by decide) ?_
      exact ih (j + 1) (by omega) (by omega)
set_option maxRecDepth 20000 in
theorem c_M_layPush (l : Launch) (E : zE) (M : zM) (S : zS) (hR : RM S M) (hO : ok S) (b : Nat) (hb : b < S.1 0) (F : Nat → Nat → Int64) (hG : hGm F M) : zK l sM E y_M_layPush b_M_layPush 7 none 1 25 [.ref (E.2.2 0), .int (iI (b : Int))] M (zPv (fun M2 => M2.1 = M.1 ∧ hGm (stp S F b) M2 ∧ (∀ i, M2.2 24 i = if i = 2 * b then p0 S F b else if i = 2 * b + 1 then p1 S F b else M.2 24 i) ∧ ∀ a, a ≠ 23 → a ≠ 24 → M2.2 a = M.2 a)) := by
  refine zK.of "OldBeamsModel" rfl (by decide) (Nat.le_of_ble_eq_true rfl) ?_
  intro G hS hE hQ hL C
  subst hE
  subst hL
  show VJ G M 0 [some (.ref (G.2.1.2.2 0)), some (.int (iI (b : Int))), none, none, none, none, none] []
  refine r_lconst C (pc := 0) (v := 0) rfl d_M_layPush_0 ?_
  refine r_lst2 C (pc := 1) rfl d_M_layPush_1 ?_
  refine r_lconst C (pc := 2) (v := 0) rfl d_M_layPush_2 ?_
  refine r_lst4 C (pc := 3) rfl d_M_layPush_3 ?_
  refine r_iconst C (pc := 5) d_M_layPush_5 ?_
  refine r_ist6 C (pc := 6) rfl d_M_layPush_6 ?_
  exact l_M_layPush_8 C hS M S hR hO b hb F hG hQ ((S.2 2 b 1).toNat + 2) 0 (by omega) (by omega)
