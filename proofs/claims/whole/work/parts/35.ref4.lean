/-- what is tried: who has fallen, which props are set -/
def hT (S : zS) (N : zM) (fal ps : Nat → Bool) : Prop := (∀ b, b < 12 → N.1 20 b = zb (fal b = true)) ∧ ∀ p, p < 8 → N.1 21 p = zb (ps p = true)
/-- but for who is down and where a beam bends most, no whole number has changed -/
def qM (M N : zM) : Prop := ∀ a i, a ≠ 22 → a ≠ 26 → N.1 a i = M.1 a i
theorem qM.rf (M : zM) : qM M M := fun _ _ _ _ => rfl
theorem qM.tr {M N O : zM} (h : qM M N) (g : qM N O) : qM M O := fun a i q q2 => (g a i q q2).trans (h a i q q2)
theorem qM.k {M N : zM} (h : qM M N) : kM M N := fun a i q => h a i (by omega) (by omega)
theorem qM.t {S : zS} {M N : zM} {fal ps : Nat → Bool} (h : qM M N) (g : hT S M fal ps) : hT S N fal ps := ⟨fun b hb => (h 20 b (by decide) (by decide)).trans (g.1 b hb), fun p hp => (h 21 p (by decide) (by decide)).trans (g.2 p hp)⟩
theorem qM_I {M N : zM} (h : qM M N) {k i : Nat} {z : Int} (hk : k = 22 ∨ k = 26) : qM M (zI N k i z) := fun a j q q2 => by
  rw [zI_o (by omega)]
  exact h a j q q2
theorem dn_at (S : zS) (fal : Nat → Bool) (k : Nat) : dn S fal (k + 1) k = ((fal k || (decide (S.2 4 k 0 ≠ -900009) && dn S fal k (S.2 4 k 0).toNat)) || (decide (S.2 4 k 1 ≠ -900009) && dn S fal k (S.2 4 k 1).toNat)) := by
  show (if k = k then _ else _) = _
  rw [if_pos rfl]
theorem dn_ne (S : zS) (fal : Nat → Bool) {k j : Nat} (h : j ≠ k) : dn S fal (k + 1) j = dn S fal k j := by
  show (if j = k then _ else _) = _
  rw [if_neg h]
set_option maxRecDepth 20000 in
theorem l_M_tryNow_28 {G : zG} (C : zC G b_M_tryNow "OldBeamsModel" none 2 0 0) (hS : G.1 = sM) (M : zM) (S : zS) (hR : RM S M) (hO : ok S) (hQ : G.2.2.1 = zPv (fun M2 => (∀ a i, a ≠ 20 → a ≠ 21 → M2.1 a i = M.1 a i) ∧ hT S M2 (flS S) (psS S))) : ∀ (n : Nat) (j : Nat) (N : zM), (j ≤ 8) → ((∀ a i, a ≠ 20 → a ≠ 21 → N.1 a i = M.1 a i)) → (∀ b, b < 12 → N.1 20 b = zb (flS S b = true)) → (∀ p, p < j → N.1 21 p = zb (psS S p = true)) → (8 - j < n) → VJ G N 28 [some (.ref (zad G 0)), some (.int (iI (j : Int)))] [] := by
  intro n
  induction n with
  | zero =>
    intro j N hj g1 g2 g3 hn
    exact absurd hn (by omega)
  | succ n ih =>
    intro j N hj g1 g2 g3 hn
    refine r_ild1 C (pc := 28) d_M_tryNow_28 ?_
    refine r_bipush C (pc := 29) (n := 8) rfl d_M_tryNow_29 ?_
    refine r_icmp_ge C (pc := 31) (tgt := 52) (by omega) (by omega) d_M_tryNow_31 (by decide) (fun c31 => ?_) (fun c31 => ?_)
    · exact r_vret C (pc := 52) hQ (⟨g1, g2, fun p hp => g3 p (by omega)⟩) d_M_tryNow_52
    · refine r_ald0 C (pc := 34) d_M_tryNow_34 ?_
      refine gM_M_trySet C (pc := 35) hS k_659 d_M_tryNow_35 ?_
      refine r_ild1 C (pc := 38) d_M_tryNow_38 ?_
      refine r_ald0 C (pc := 39) d_M_tryNow_39 ?_
      refine gM_M_isSet C (pc := 40) hS k_657 d_M_tryNow_40 ?_
      refine r_ild1 C (pc := 43) d_M_tryNow_43 ?_
      refine M_baldN C (pc := 44) hS (j) (by omega) rfl (by decide) (by omega) (by decide) d_M_tryNow_44 ?_
      rw [g1 19 j (by decide) (by decide), hR.2.2.2.2.2.2.2.1 j (by omega)]
      have hpo := (hO.2.2.2.2.2.2.2.1 j (by omega)).1
      refine M_bastN C (pc := 45) hS (j) (by omega) rfl (by decide) (by omega) (by decide) hpo  d_M_tryNow_45 ?_
      refine r_iinc1 C (pc := 46) rfl d_M_tryNow_46 ?_
      refine r_goto C (pc := 49) (tgt := 28) d_M_tryNow_49 (by decide) ?_
      exact ih (j + 1) _ (by omega) (fun a i q q2 => by rw [zI_o (by omega)]; exact g1 a i q q2) (fun b hb => by rw [zI_o (by omega)]; exact g2 b hb) (fun p hp => by
        by_cases e : p = j
        · rw [e, zI_same]
          unfold psS
          rcases hpo with q | q
          · rw [q]; rfl
          · rw [q]; rfl
        · rw [zI_o (by omega)]; exact g3 p (by omega)) (by omega)
set_option maxRecDepth 20000 in
theorem l_M_tryNow_2 {G : zG} (C : zC G b_M_tryNow "OldBeamsModel" none 2 0 0) (hS : G.1 = sM) (M : zM) (S : zS) (hR : RM S M) (hO : ok S) (hQ : G.2.2.1 = zPv (fun M2 => (∀ a i, a ≠ 20 → a ≠ 21 → M2.1 a i = M.1 a i) ∧ hT S M2 (flS S) (psS S))) : ∀ (n : Nat) (j : Nat) (N : zM), (j ≤ 12) → ((∀ a i, a ≠ 20 → a ≠ 21 → N.1 a i = M.1 a i)) → (∀ b, b < j → N.1 20 b = zb (flS S b = true)) → (12 - j < n) → VJ G N 2 [some (.ref (zad G 0)), some (.int (iI (j : Int)))] [] := by
  intro n
  induction n with
  | zero =>
    intro j N hj g1 g3 hn
    exact absurd hn (by omega)
  | succ n ih =>
    intro j N hj g1 g3 hn
    refine r_ild1 C (pc := 2) d_M_tryNow_2 ?_
    refine r_bipush C (pc := 3) (n := 12) rfl d_M_tryNow_3 ?_
    refine r_icmp_ge C (pc := 5) (tgt := 26) (by omega) (by omega) d_M_tryNow_5 (by decide) (fun c5 => ?_) (fun c5 => ?_)
    · refine r_iconst C (pc := 26) d_M_tryNow_26 ?_
      refine r_ist1 C (pc := 27) rfl d_M_tryNow_27 ?_
      exact l_M_tryNow_28 C hS M S hR hO hQ 9 0 N (by omega) g1 (fun b hb => g3 b (by omega)) (fun p hp => absurd hp (Nat.not_lt_zero p)) (by omega)
    · refine r_ald0 C (pc := 8) d_M_tryNow_8 ?_
      refine gM_M_tryFallen C (pc := 9) hS k_658 d_M_tryNow_9 ?_
      refine r_ild1 C (pc := 12) d_M_tryNow_12 ?_
      refine r_ald0 C (pc := 13) d_M_tryNow_13 ?_
      refine gM_M_hasFallen C (pc := 14) hS k_644 d_M_tryNow_14 ?_
      refine r_ild1 C (pc := 17) d_M_tryNow_17 ?_
      refine M_baldN C (pc := 18) hS (j) (by omega) rfl (by decide) (by omega) (by decide) d_M_tryNow_18 ?_
      rw [g1 8 j (by decide) (by decide), (hR.2.2.2.1 j (by omega)).2]
      have hpo := (hO.2.2.2.1 j (by omega)).2
      refine M_bastN C (pc := 19) hS (j) (by omega) rfl (by decide) (by omega) (by decide) hpo  d_M_tryNow_19 ?_
      refine r_iinc1 C (pc := 20) rfl d_M_tryNow_20 ?_
      refine r_goto C (pc := 23) (tgt := 2) d_M_tryNow_23 (by decide) ?_
      exact ih (j + 1) _ (by omega) (fun a i q q2 => by rw [zI_o (by omega)]; exact g1 a i q q2) (fun p hp => by
        by_cases e : p = j
        · rw [e, zI_same]
          unfold flS
          rcases hpo with q | q
          · rw [q]; rfl
          · rw [q]; rfl
        · rw [zI_o (by omega)]; exact g3 p (by omega)) (by omega)
set_option maxRecDepth 20000 in
theorem c_M_tryNow (l : Launch) (E : zE) (M : zM) (S : zS) (hR : RM S M) (hO : ok S) : zK l sM E y_M_tryNow b_M_tryNow 2 none 0 0 [.ref (E.2.2 0)] M (zPv (fun M2 => (∀ a i, a ≠ 20 → a ≠ 21 → M2.1 a i = M.1 a i) ∧ hT S M2 (flS S) (psS S))) := by
  refine zK.of "OldBeamsModel" rfl (by decide) (Nat.le_of_ble_eq_true rfl) ?_
  intro G hS hE hQ hL C
  subst hE
  subst hL
  show VJ G M 0 [some (.ref (G.2.1.2.2 0)), none] []
  refine r_iconst C (pc := 0) d_M_tryNow_0 ?_
  refine r_ist1 C (pc := 1) rfl d_M_tryNow_1 ?_
  exact l_M_tryNow_2 C hS M S hR hO hQ 13 0 M (by omega) (fun _ _ _ _ => rfl) (fun p hp => absurd hp (Nat.not_lt_zero p)) (by omega)
theorem zb_t {b : Bool} (h : b = true) : (1 : Int) = zb (b = true) := zb_of1 h
theorem zb_f {b : Bool} (h : ¬ b = true) : (0 : Int) = zb (b = true) := zb_of0 h
set_option maxRecDepth 20000 in
theorem l_M_layDown_2 {G : zG} (C : zC G b_M_layDown "OldBeamsModel" none 3 0 0) (hS : G.1 = sM) (M : zM) (S : zS) (hR : RM S M) (hO : ok S) (fal ps : Nat → Bool) (hTT : hT S M fal ps) (hQ : G.2.2.1 = zPv (fun M2 => qM M M2 ∧ M2.2 = M.2 ∧ ∀ b, b < S.1 0 → M2.1 22 b = zb (dA S fal b = true))) : ∀ (n : Nat) (i : Nat) (N : zM), (i ≤ S.1 0) → (qM M N) → (N.2 = M.2) → (∀ b, b < i → N.1 22 b = zb (dn S fal i b = true)) → (S.1 0 - i < n) → VJ G N 2 [some (.ref (zad G 0)), some (.int (iI (i : Int))), none] [] := by
  intro n
  induction n with
  | zero =>
    intro i N hi g1 g2 g3 hn
    exact absurd hn (by omega)
  | succ n ih =>
    intro i N hi g1 g2 g3 hn
    have h12 := hO.n
    have hbn : N.1 0 2 = (S.1 0 : Int) := (g1 0 2 (by decide) (by decide)).trans hR.1.1
    refine r_ild1 C (pc := 2) d_M_layDown_2 ?_
    refine r_ald0 C (pc := 3) d_M_layDown_3 ?_
    refine gM_M_beams C (pc := 4) hS k_638 d_M_layDown_4 ?_
    rw [hbn]
    refine r_icmp_ge C (pc := 7) (tgt := 92) (by omega) (by omega) d_M_layDown_7 (by decide) (fun c7 => ?_) (fun c7 => ?_)
    · exact r_vret C (pc := 92) hQ (⟨g1, g2, fun b hb => by rw [g3 b (by omega), show i = S.1 0 by omega]; rfl⟩) d_M_layDown_92
    · refine r_ald0 C (pc := 10) d_M_layDown_10 ?_
      refine gM_M_isDown C (pc := 11) hS k_660 d_M_layDown_11 ?_
      refine r_ild1 C (pc := 14) d_M_layDown_14 ?_
      refine r_ald0 C (pc := 15) d_M_layDown_15 ?_
      refine gM_M_tryFallen C (pc := 16) hS k_658 d_M_layDown_16 ?_
      refine r_ild1 C (pc := 19) d_M_layDown_19 ?_
      refine M_baldN C (pc := 20) hS (i) (by omega) rfl (by decide) (by omega) (by decide) d_M_layDown_20 ?_
      rw [(g1.t hTT).1 i (by omega)]
      obtain ⟨-, -, -, -, -, -, -, ho0, ho1⟩ := hO.2.2.1 i (by omega)
      have hq0 : N.1 10 (2 * i) = S.2 4 i 0 := (g1 10 _ (by decide) (by decide)).trans ((hR.2.2.1 i (by omega)).2 0 (by omega)).2.1
      have hq1 : N.1 10 (2 * i + 1) = S.2 4 i 1 := (g1 10 _ (by decide) (by decide)).trans ((hR.2.2.1 i (by omega)).2 1 (by omega)).2.1
      refine M_bastN C (pc := 21) hS (i) (by omega) rfl (by decide) (by omega) (by decide) (by first | exact Or.inl rfl | exact Or.inr rfl | exact zb_01 _ | assumption)  d_M_layDown_21 ?_
      refine r_iconst C (pc := 22) d_M_layDown_22 ?_
      refine r_ild1 C (pc := 23) d_M_layDown_23 ?_
      refine r_imul C (pc := 24) d_M_layDown_24 ?_
      refine r_ist2 C (pc := 25) rfl d_M_layDown_25 ?_
      refine r_ild2 C (pc := 26) d_M_layDown_26 ?_
      refine r_iconst C (pc := 27) d_M_layDown_27 ?_
      refine r_ild1 C (pc := 28) d_M_layDown_28 ?_
      refine r_imul C (pc := 29) d_M_layDown_29 ?_
      refine r_iconst C (pc := 30) d_M_layDown_30 ?_
      refine r_iadd C (pc := 31) d_M_layDown_31 ?_
      refine r_icmp_ge C (pc := 32) (tgt := 86) (by omega) (by omega) d_M_layDown_32 (by decide) (fun c32 => ?_) (fun c32 => ?_)
      · exact absurd c32 (by omega)
      · refine r_ald0 C (pc := 35) d_M_layDown_35 ?_
        refine gM_M_isDown C (pc := 36) hS k_660 d_M_layDown_36 ?_
        refine r_ild1 C (pc := 39) d_M_layDown_39 ?_
        refine r_ald0 C (pc := 40) d_M_layDown_40 ?_
        refine gM_M_isDown C (pc := 41) hS k_660 d_M_layDown_41 ?_
        refine r_ild1 C (pc := 44) d_M_layDown_44 ?_
        refine M_baldN C (pc := 45) hS (i) (by omega) rfl (by decide) (by omega) (by decide) d_M_layDown_45 ?_
        rw [zI_same]
        refine r_ifneB C (pc := 46) (tgt := 74) d_M_layDown_46 (by decide) (fun c46 => ?_) (fun c46 => ?_)
        · refine r_iconst C (pc := 74) d_M_layDown_74 ?_
          refine r_goto C (pc := 75) (tgt := 79) d_M_layDown_75 (by decide) ?_
          refine M_bastN C (pc := 79) hS (i) (by omega) rfl (by decide) (by omega) (by decide) (by first | exact Or.inl rfl | exact Or.inr rfl | exact zb_01 _ | assumption)  d_M_layDown_79 ?_
          rw [zI_zI]
          refine r_iinc2 C (pc := 80) rfl d_M_layDown_80 ?_
          refine r_goto C (pc := 83) (tgt := 26) d_M_layDown_83 (by decide) ?_
          refine r_ild2 C (pc := 26) d_M_layDown_26 ?_
          refine r_iconst C (pc := 27) d_M_layDown_27 ?_
          refine r_ild1 C (pc := 28) d_M_layDown_28 ?_
          refine r_imul C (pc := 29) d_M_layDown_29 ?_
          refine r_iconst C (pc := 30) d_M_layDown_30 ?_
          refine r_iadd C (pc := 31) d_M_layDown_31 ?_
          refine r_icmp_ge C (pc := 32) (tgt := 86) (by omega) (by omega) d_M_layDown_32 (by decide) (fun c32b => ?_) (fun c32b => ?_)
          · exact absurd c32b (by omega)
          · refine r_ald0 C (pc := 35) d_M_layDown_35 ?_
            refine gM_M_isDown C (pc := 36) hS k_660 d_M_layDown_36 ?_
            refine r_ild1 C (pc := 39) d_M_layDown_39 ?_
            refine r_ald0 C (pc := 40) d_M_layDown_40 ?_
            refine gM_M_isDown C (pc := 41) hS k_660 d_M_layDown_41 ?_
            refine r_ild1 C (pc := 44) d_M_layDown_44 ?_
            refine M_baldN C (pc := 45) hS (i) (by omega) rfl (by decide) (by omega) (by decide) d_M_layDown_45 ?_
            rw [zI_same]
            refine r_if_ne C (pc := 46) (tgt := 74) (by omega) d_M_layDown_46 (by decide) (fun c46b => ?_) (fun c46b => ?_)
            · refine r_iconst C (pc := 74) d_M_layDown_74 ?_
              refine r_goto C (pc := 75) (tgt := 79) d_M_layDown_75 (by decide) ?_
              refine M_bastN C (pc := 79) hS (i) (by omega) rfl (by decide) (by omega) (by decide) (by first | exact Or.inl rfl | exact Or.inr rfl | exact zb_01 _ | assumption)  d_M_layDown_79 ?_
              rw [zI_zI]
              refine r_iinc2 C (pc := 80) rfl d_M_layDown_80 ?_
              refine r_goto C (pc := 83) (tgt := 26) d_M_layDown_83 (by decide) ?_
              refine r_ild2 C (pc := 26) d_M_layDown_26 ?_
              refine r_iconst C (pc := 27) d_M_layDown_27 ?_
              refine r_ild1 C (pc := 28) d_M_layDown_28 ?_
              refine r_imul C (pc := 29) d_M_layDown_29 ?_
              refine r_iconst C (pc := 30) d_M_layDown_30 ?_
              refine r_iadd C (pc := 31) d_M_layDown_31 ?_
              refine r_icmp_ge C (pc := 32) (tgt := 86) (by omega) (by omega) d_M_layDown_32 (by decide) (fun c32c => ?_) (fun c32c => ?_)
              · refine r_iinc1 C (pc := 86) rfl d_M_layDown_86 ?_
                refine r_goto C (pc := 89) (tgt := 2) d_M_layDown_89 (by decide) ?_
                refine r_weak ?_ (ih (i + 1) _ (by omega) (qM_I g1 (Or.inl rfl)) g2 (fun b hb => by
                  by_cases e : b = i
                  · subst e
                    rw [zI_same, dn_at]
                    first
                    | (exfalso; omega)
                    | exact zb_t (by simp only [Bool.or_eq_true, Bool.and_eq_true, decide_eq_true_eq]; grind)
                    | exact zb_f (by simp only [Bool.or_eq_true, Bool.and_eq_true, decide_eq_true_eq]; grind)
                  · rw [zI_o (by omega), dn_ne S fal e]; exact g3 b (by omega)) (by omega))
                exact ⟨Or.inr rfl, Or.inr rfl, Or.inl rfl, trivial⟩
              · exact absurd c32c (by omega)
            · refine r_ald0 C (pc := 49) d_M_layDown_49 ?_
              refine gM_M_seatOn C (pc := 50) hS k_646 d_M_layDown_50 ?_
              refine r_ild2 C (pc := 53) d_M_layDown_53 ?_
              refine M_ialdN C (pc := 54) hS (((2 * i) + 1)) (by omega) rfl (by decide) (by omega) (by decide) d_M_layDown_54 ?_
              first | rw [zI_o (by omega), hq0] | rw [zI_o (by omega), hq1]
              refine r_ldc C (pc := 55) (z := (-900009)) k_796 rfl d_M_layDown_55 ?_
              refine r_icmp_eq C (pc := 57) (tgt := 78) (by omega) (by omega) d_M_layDown_57 (by decide) (fun c57 => ?_) (fun c57 => ?_)
              · refine r_iconst C (pc := 78) d_M_layDown_78 ?_
                refine M_bastN C (pc := 79) hS (i) (by omega) rfl (by decide) (by omega) (by decide) (by first | exact Or.inl rfl | exact Or.inr rfl | exact zb_01 _ | assumption)  d_M_layDown_79 ?_
                rw [zI_zI]
                refine r_iinc2 C (pc := 80) rfl d_M_layDown_80 ?_
                refine r_goto C (pc := 83) (tgt := 26) d_M_layDown_83 (by decide) ?_
                refine r_ild2 C (pc := 26) d_M_layDown_26 ?_
                refine r_iconst C (pc := 27) d_M_layDown_27 ?_
                refine r_ild1 C (pc := 28) d_M_layDown_28 ?_
                refine r_imul C (pc := 29) d_M_layDown_29 ?_
                refine r_iconst C (pc := 30) d_M_layDown_30 ?_
                refine r_iadd C (pc := 31) d_M_layDown_31 ?_
                refine r_icmp_ge C (pc := 32) (tgt := 86) (by omega) (by omega) d_M_layDown_32 (by decide) (fun c32c => ?_) (fun c32c => ?_)
                · refine r_iinc1 C (pc := 86) rfl d_M_layDown_86 ?_
                  refine r_goto C (pc := 89) (tgt := 2) d_M_layDown_89 (by decide) ?_
                  refine r_weak ?_ (ih (i + 1) _ (by omega) (qM_I g1 (Or.inl rfl)) g2 (fun b hb => by
                    by_cases e : b = i
                    · subst e
                      rw [zI_same, dn_at]
                      first
                      | (exfalso; omega)
                      | exact zb_t (by simp only [Bool.or_eq_true, Bool.and_eq_true, decide_eq_true_eq]; grind)
                      | exact zb_f (by simp only [Bool.or_eq_true, Bool.and_eq_true, decide_eq_true_eq]; grind)
                    · rw [zI_o (by omega), dn_ne S fal e]; exact g3 b (by omega)) (by omega))
                  exact ⟨Or.inr rfl, Or.inr rfl, Or.inl rfl, trivial⟩
                · exact absurd c32c (by omega)
              · refine r_ald0 C (pc := 60) d_M_layDown_60 ?_
                refine gM_M_isDown C (pc := 61) hS k_660 d_M_layDown_61 ?_
                refine r_ald0 C (pc := 64) d_M_layDown_64 ?_
                refine gM_M_seatOn C (pc := 65) hS k_646 d_M_layDown_65 ?_
                refine r_ild2 C (pc := 68) d_M_layDown_68 ?_
                refine M_ialdN C (pc := 69) hS (((2 * i) + 1)) (by omega) rfl (by decide) (by omega) (by decide) d_M_layDown_69 ?_
                first | rw [zI_o (by omega), hq0] | rw [zI_o (by omega), hq1]
                refine M_bald C (pc := 70) hS rfl (by decide) (by omega) (by omega) (by decide) d_M_layDown_70 ?_
                rw [zI_o (by omega), g3 _ (by omega)]
                refine r_ifeqB C (pc := 71) (tgt := 78) d_M_layDown_71 (by decide) (fun c71 => ?_) (fun c71 => ?_)
                · refine r_iconst C (pc := 78) d_M_layDown_78 ?_
                  refine M_bastN C (pc := 79) hS (i) (by omega) rfl (by decide) (by omega) (by decide) (by first | exact Or.inl rfl | exact Or.inr rfl | exact zb_01 _ | assumption)  d_M_layDown_79 ?_
                  rw [zI_zI]
                  refine r_iinc2 C (pc := 80) rfl d_M_layDown_80 ?_
                  refine r_goto C (pc := 83) (tgt := 26) d_M_layDown_83 (by decide) ?_
                  refine r_ild2 C (pc := 26) d_M_layDown_26 ?_
                  refine r_iconst C (pc := 27) d_M_layDown_27 ?_
                  refine r_ild1 C (pc := 28) d_M_layDown_28 ?_
                  refine r_imul C (pc := 29) d_M_layDown_29 ?_
                  refine r_iconst C (pc := 30) d_M_layDown_30 ?_
                  refine r_iadd C (pc := 31) d_M_layDown_31 ?_
                  refine r_icmp_ge C (pc := 32) (tgt := 86) (by omega) (by omega) d_M_layDown_32 (by decide) (fun c32c => ?_) (fun c32c => ?_)
                  · refine r_iinc1 C (pc := 86) rfl d_M_layDown_86 ?_
                    refine r_goto C (pc := 89) (tgt := 2) d_M_layDown_89 (by decide) ?_
                    refine r_weak ?_ (ih (i + 1) _ (by omega) (qM_I g1 (Or.inl rfl)) g2 (fun b hb => by
                      by_cases e : b = i
                      · subst e
                        rw [zI_same, dn_at]
                        first
                        | (exfalso; omega)
                        | exact zb_t (by simp only [Bool.or_eq_true, Bool.and_eq_true, decide_eq_true_eq]; grind)
                        | exact zb_f (by simp only [Bool.or_eq_true, Bool.and_eq_true, decide_eq_true_eq]; grind)
                      · rw [zI_o (by omega), dn_ne S fal e]; exact g3 b (by omega)) (by omega))
                    exact ⟨Or.inr rfl, Or.inr rfl, Or.inl rfl, trivial⟩
                  · exact absurd c32c (by omega)
                · refine r_iconst C (pc := 74) d_M_layDown_74 ?_
                  refine r_goto C (pc := 75) (tgt := 79) d_M_layDown_75 (by decide) ?_
                  refine M_bastN C (pc := 79) hS (i) (by omega) rfl (by decide) (by omega) (by decide) (by first | exact Or.inl rfl | exact Or.inr rfl | exact zb_01 _ | assumption)  d_M_layDown_79 ?_
                  rw [zI_zI]
                  refine r_iinc2 C (pc := 80) rfl d_M_layDown_80 ?_
                  refine r_goto C (pc := 83) (tgt := 26) d_M_layDown_83 (by decide) ?_
                  refine r_ild2 C (pc := 26) d_M_layDown_26 ?_
                  refine r_iconst C (pc := 27) d_M_layDown_27 ?_
                  refine r_ild1 C (pc := 28) d_M_layDown_28 ?_
                  refine r_imul C (pc := 29) d_M_layDown_29 ?_
                  refine r_iconst C (pc := 30) d_M_layDown_30 ?_
                  refine r_iadd C (pc := 31) d_M_layDown_31 ?_
                  refine r_icmp_ge C (pc := 32) (tgt := 86) (by omega) (by omega) d_M_layDown_32 (by decide) (fun c32c => ?_) (fun c32c => ?_)
                  · refine r_iinc1 C (pc := 86) rfl d_M_layDown_86 ?_
                    refine r_goto C (pc := 89) (tgt := 2) d_M_layDown_89 (by decide) ?_
                    refine r_weak ?_ (ih (i + 1) _ (by omega) (qM_I g1 (Or.inl rfl)) g2 (fun b hb => by
                      by_cases e : b = i
                      · subst e
                        rw [zI_same, dn_at]
                        first
                        | (exfalso; omega)
                        | exact zb_t (by simp only [Bool.or_eq_true, Bool.and_eq_true, decide_eq_true_eq]; grind)
                        | exact zb_f (by simp only [Bool.or_eq_true, Bool.and_eq_true, decide_eq_true_eq]; grind)
                      · rw [zI_o (by omega), dn_ne S fal e]; exact g3 b (by omega)) (by omega))
                    exact ⟨Or.inr rfl, Or.inr rfl, Or.inl rfl, trivial⟩
                  · exact absurd c32c (by omega)
        · refine r_ald0 C (pc := 49) d_M_layDown_49 ?_
          refine gM_M_seatOn C (pc := 50) hS k_646 d_M_layDown_50 ?_
          refine r_ild2 C (pc := 53) d_M_layDown_53 ?_
          refine M_ialdN C (pc := 54) hS ((2 * i)) (by omega) rfl (by decide) (by omega) (by decide) d_M_layDown_54 ?_
          first | rw [zI_o (by omega), hq0] | rw [zI_o (by omega), hq1]
          refine r_ldc C (pc := 55) (z := (-900009)) k_796 rfl d_M_layDown_55 ?_
          refine r_icmp_eq C (pc := 57) (tgt := 78) (by omega) (by omega) d_M_layDown_57 (by decide) (fun c57 => ?_) (fun c57 => ?_)
          · refine r_iconst C (pc := 78) d_M_layDown_78 ?_
            refine M_bastN C (pc := 79) hS (i) (by omega) rfl (by decide) (by omega) (by decide) (by first | exact Or.inl rfl | exact Or.inr rfl | exact zb_01 _ | assumption)  d_M_layDown_79 ?_
            rw [zI_zI]
            refine r_iinc2 C (pc := 80) rfl d_M_layDown_80 ?_
            refine r_goto C (pc := 83) (tgt := 26) d_M_layDown_83 (by decide) ?_
            refine r_ild2 C (pc := 26) d_M_layDown_26 ?_
            refine r_iconst C (pc := 27) d_M_layDown_27 ?_
            refine r_ild1 C (pc := 28) d_M_layDown_28 ?_
            refine r_imul C (pc := 29) d_M_layDown_29 ?_
            refine r_iconst C (pc := 30) d_M_layDown_30 ?_
            refine r_iadd C (pc := 31) d_M_layDown_31 ?_
            refine r_icmp_ge C (pc := 32) (tgt := 86) (by omega) (by omega) d_M_layDown_32 (by decide) (fun c32b => ?_) (fun c32b => ?_)
            · exact absurd c32b (by omega)
            · refine r_ald0 C (pc := 35) d_M_layDown_35 ?_
              refine gM_M_isDown C (pc := 36) hS k_660 d_M_layDown_36 ?_
              refine r_ild1 C (pc := 39) d_M_layDown_39 ?_
              refine r_ald0 C (pc := 40) d_M_layDown_40 ?_
              refine gM_M_isDown C (pc := 41) hS k_660 d_M_layDown_41 ?_
              refine r_ild1 C (pc := 44) d_M_layDown_44 ?_
              refine M_baldN C (pc := 45) hS (i) (by omega) rfl (by decide) (by omega) (by decide) d_M_layDown_45 ?_
              rw [zI_same]
              refine r_if_ne C (pc := 46) (tgt := 74) (by omega) d_M_layDown_46 (by decide) (fun c46b => ?_) (fun c46b => ?_)
              · refine r_iconst C (pc := 74) d_M_layDown_74 ?_
                refine r_goto C (pc := 75) (tgt := 79) d_M_layDown_75 (by decide) ?_
                refine M_bastN C (pc := 79) hS (i) (by omega) rfl (by decide) (by omega) (by decide) (by first | exact Or.inl rfl | exact Or.inr rfl | exact zb_01 _ | assumption)  d_M_layDown_79 ?_
                rw [zI_zI]
                refine r_iinc2 C (pc := 80) rfl d_M_layDown_80 ?_
                refine r_goto C (pc := 83) (tgt := 26) d_M_layDown_83 (by decide) ?_
                refine r_ild2 C (pc := 26) d_M_layDown_26 ?_
                refine r_iconst C (pc := 27) d_M_layDown_27 ?_
                refine r_ild1 C (pc := 28) d_M_layDown_28 ?_
                refine r_imul C (pc := 29) d_M_layDown_29 ?_
                refine r_iconst C (pc := 30) d_M_layDown_30 ?_
                refine r_iadd C (pc := 31) d_M_layDown_31 ?_
                refine r_icmp_ge C (pc := 32) (tgt := 86) (by omega) (by omega) d_M_layDown_32 (by decide) (fun c32c => ?_) (fun c32c => ?_)
                · refine r_iinc1 C (pc := 86) rfl d_M_layDown_86 ?_
                  refine r_goto C (pc := 89) (tgt := 2) d_M_layDown_89 (by decide) ?_
                  refine r_weak ?_ (ih (i + 1) _ (by omega) (qM_I g1 (Or.inl rfl)) g2 (fun b hb => by
                    by_cases e : b = i
                    · subst e
                      rw [zI_same, dn_at]
                      first
                      | (exfalso; omega)
                      | exact zb_t (by simp only [Bool.or_eq_true, Bool.and_eq_true, decide_eq_true_eq]; grind)
                      | exact zb_f (by simp only [Bool.or_eq_true, Bool.and_eq_true, decide_eq_true_eq]; grind)
                    · rw [zI_o (by omega), dn_ne S fal e]; exact g3 b (by omega)) (by omega))
                  exact ⟨Or.inr rfl, Or.inr rfl, Or.inl rfl, trivial⟩
                · exact absurd c32c (by omega)
              · refine r_ald0 C (pc := 49) d_M_layDown_49 ?_
                refine gM_M_seatOn C (pc := 50) hS k_646 d_M_layDown_50 ?_
                refine r_ild2 C (pc := 53) d_M_layDown_53 ?_
                refine M_ialdN C (pc := 54) hS (((2 * i) + 1)) (by omega) rfl (by decide) (by omega) (by decide) d_M_layDown_54 ?_
                first | rw [zI_o (by omega), hq0] | rw [zI_o (by omega), hq1]
                refine r_ldc C (pc := 55) (z := (-900009)) k_796 rfl d_M_layDown_55 ?_
                refine r_icmp_eq C (pc := 57) (tgt := 78) (by omega) (by omega) d_M_layDown_57 (by decide) (fun c57b => ?_) (fun c57b => ?_)
                · refine r_iconst C (pc := 78) d_M_layDown_78 ?_
                  refine M_bastN C (pc := 79) hS (i) (by omega) rfl (by decide) (by omega) (by decide) (by first | exact Or.inl rfl | exact Or.inr rfl | exact zb_01 _ | assumption)  d_M_layDown_79 ?_
                  rw [zI_zI]
                  refine r_iinc2 C (pc := 80) rfl d_M_layDown_80 ?_
                  refine r_goto C (pc := 83) (tgt := 26) d_M_layDown_83 (by decide) ?_
                  refine r_ild2 C (pc := 26) d_M_layDown_26 ?_
                  refine r_iconst C (pc := 27) d_M_layDown_27 ?_
                  refine r_ild1 C (pc := 28) d_M_layDown_28 ?_
                  refine r_imul C (pc := 29) d_M_layDown_29 ?_
                  refine r_iconst C (pc := 30) d_M_layDown_30 ?_
                  refine r_iadd C (pc := 31) d_M_layDown_31 ?_
                  refine r_icmp_ge C (pc := 32) (tgt := 86) (by omega) (by omega) d_M_layDown_32 (by decide) (fun c32c => ?_) (fun c32c => ?_)
                  · refine r_iinc1 C (pc := 86) rfl d_M_layDown_86 ?_
                    refine r_goto C (pc := 89) (tgt := 2) d_M_layDown_89 (by decide) ?_
                    refine r_weak ?_ (ih (i + 1) _ (by omega) (qM_I g1 (Or.inl rfl)) g2 (fun b hb => by
                      by_cases e : b = i
                      · subst e
                        rw [zI_same, dn_at]
                        first
                        | (exfalso; omega)
                        | exact zb_t (by simp only [Bool.or_eq_true, Bool.and_eq_true, decide_eq_true_eq]; grind)
                        | exact zb_f (by simp only [Bool.or_eq_true, Bool.and_eq_true, decide_eq_true_eq]; grind)
                      · rw [zI_o (by omega), dn_ne S fal e]; exact g3 b (by omega)) (by omega))
                    exact ⟨Or.inr rfl, Or.inr rfl, Or.inl rfl, trivial⟩
                  · exact absurd c32c (by omega)
                · refine r_ald0 C (pc := 60) d_M_layDown_60 ?_
                  refine gM_M_isDown C (pc := 61) hS k_660 d_M_layDown_61 ?_
                  refine r_ald0 C (pc := 64) d_M_layDown_64 ?_
                  refine gM_M_seatOn C (pc := 65) hS k_646 d_M_layDown_65 ?_
                  refine r_ild2 C (pc := 68) d_M_layDown_68 ?_
                  refine M_ialdN C (pc := 69) hS (((2 * i) + 1)) (by omega) rfl (by decide) (by omega) (by decide) d_M_layDown_69 ?_
                  first | rw [zI_o (by omega), hq0] | rw [zI_o (by omega), hq1]
                  refine M_bald C (pc := 70) hS rfl (by decide) (by omega) (by omega) (by decide) d_M_layDown_70 ?_
                  rw [zI_o (by omega), g3 _ (by omega)]
                  refine r_ifeqB C (pc := 71) (tgt := 78) d_M_layDown_71 (by decide) (fun c71 => ?_) (fun c71 => ?_)
                  · refine r_iconst C (pc := 78) d_M_layDown_78 ?_
                    refine M_bastN C (pc := 79) hS (i) (by omega) rfl (by decide) (by omega) (by decide) (by first | exact Or.inl rfl | exact Or.inr rfl | exact zb_01 _ | assumption)  d_M_layDown_79 ?_
                    rw [zI_zI]
                    refine r_iinc2 C (pc := 80) rfl d_M_layDown_80 ?_
                    refine r_goto C (pc := 83) (tgt := 26) d_M_layDown_83 (by decide) ?_
                    refine r_ild2 C (pc := 26) d_M_layDown_26 ?_
                    refine r_iconst C (pc := 27) d_M_layDown_27 ?_
                    refine r_ild1 C (pc := 28) d_M_layDown_28 ?_
                    refine r_imul C (pc := 29) d_M_layDown_29 ?_
                    refine r_iconst C (pc := 30) d_M_layDown_30 ?_
                    refine r_iadd C (pc := 31) d_M_layDown_31 ?_
                    refine r_icmp_ge C (pc := 32) (tgt := 86) (by omega) (by omega) d_M_layDown_32 (by decide) (fun c32c => ?_) (fun c32c => ?_)
                    · refine r_iinc1 C (pc := 86) rfl d_M_layDown_86 ?_
                      refine r_goto C (pc := 89) (tgt := 2) d_M_layDown_89 (by decide) ?_
                      refine r_weak ?_ (ih (i + 1) _ (by omega) (qM_I g1 (Or.inl rfl)) g2 (fun b hb => by
                        by_cases e : b = i
                        · subst e
                          rw [zI_same, dn_at]
                          first
                          | (exfalso; omega)
                          | exact zb_t (by simp only [Bool.or_eq_true, Bool.and_eq_true, decide_eq_true_eq]; grind)
                          | exact zb_f (by simp only [Bool.or_eq_true, Bool.and_eq_true, decide_eq_true_eq]; grind)
                        · rw [zI_o (by omega), dn_ne S fal e]; exact g3 b (by omega)) (by omega))
                      exact ⟨Or.inr rfl, Or.inr rfl, Or.inl rfl, trivial⟩
                    · exact absurd c32c (by omega)
                  · refine r_iconst C (pc := 74) d_M_layDown_74 ?_
                    refine r_goto C (pc := 75) (tgt := 79) d_M_layDown_75 (by decide) ?_
                    refine M_bastN C (pc := 79) hS (i) (by omega) rfl (by decide) (by omega) (by decide) (by first | exact Or.inl rfl | exact Or.inr rfl | exact zb_01 _ | assumption)  d_M_layDown_79 ?_
                    rw [zI_zI]
                    refine r_iinc2 C (pc := 80) rfl d_M_layDown_80 ?_
                    refine r_goto C (pc := 83) (tgt := 26) d_M_layDown_83 (by decide) ?_
                    refine r_ild2 C (pc := 26) d_M_layDown_26 ?_
                    refine r_iconst C (pc := 27) d_M_layDown_27 ?_
                    refine r_ild1 C (pc := 28) d_M_layDown_28 ?_
                    refine r_imul C (pc := 29) d_M_layDown_29 ?_
                    refine r_iconst C (pc := 30) d_M_layDown_30 ?_
                    refine r_iadd C (pc := 31) d_M_layDown_31 ?_
                    refine r_icmp_ge C (pc := 32) (tgt := 86) (by omega) (by omega) d_M_layDown_32 (by decide) (fun c32c => ?_) (fun c32c => ?_)
                    · refine r_iinc1 C (pc := 86) rfl d_M_layDown_86 ?_
                      refine r_goto C (pc := 89) (tgt := 2) d_M_layDown_89 (by decide) ?_
                      refine r_weak ?_ (ih (i + 1) _ (by omega) (qM_I g1 (Or.inl rfl)) g2 (fun b hb => by
                        by_cases e : b = i
                        · subst e
                          rw [zI_same, dn_at]
                          first
                          | (exfalso; omega)
                          | exact zb_t (by simp only [Bool.or_eq_true, Bool.and_eq_true, decide_eq_true_eq]; grind)
                          | exact zb_f (by simp only [Bool.or_eq_true, Bool.and_eq_true, decide_eq_true_eq]; grind)
                        · rw [zI_o (by omega), dn_ne S fal e]; exact g3 b (by omega)) (by omega))
                      exact ⟨Or.inr rfl, Or.inr rfl, Or.inl rfl, trivial⟩
                    · exact absurd c32c (by omega)
          · refine r_ald0 C (pc := 60) d_M_layDown_60 ?_
            refine gM_M_isDown C (pc := 61) hS k_660 d_M_layDown_61 ?_
            refine r_ald0 C (pc := 64) d_M_layDown_64 ?_
            refine gM_M_seatOn C (pc := 65) hS k_646 d_M_layDown_65 ?_
            refine r_ild2 C (pc := 68) d_M_layDown_68 ?_
            refine M_ialdN C (pc := 69) hS ((2 * i)) (by omega) rfl (by decide) (by omega) (by decide) d_M_layDown_69 ?_
            first | rw [zI_o (by omega), hq0] | rw [zI_o (by omega), hq1]
            refine M_bald C (pc := 70) hS rfl (by decide) (by omega) (by omega) (by decide) d_M_layDown_70 ?_
            rw [zI_o (by omega), g3 _ (by omega)]
            refine r_ifeqB C (pc := 71) (tgt := 78) d_M_layDown_71 (by decide) (fun c71 => ?_) (fun c71 => ?_)
            · refine r_iconst C (pc := 78) d_M_layDown_78 ?_
              refine M_bastN C (pc := 79) hS (i) (by omega) rfl (by decide) (by omega) (by decide) (by first | exact Or.inl rfl | exact Or.inr rfl | exact zb_01 _ | assumption)  d_M_layDown_79 ?_
              rw [zI_zI]
              refine r_iinc2 C (pc := 80) rfl d_M_layDown_80 ?_
              refine r_goto C (pc := 83) (tgt := 26) d_M_layDown_83 (by decide) ?_
              refine r_ild2 C (pc := 26) d_M_layDown_26 ?_
              refine r_iconst C (pc := 27) d_M_layDown_27 ?_
              refine r_ild1 C (pc := 28) d_M_layDown_28 ?_
              refine r_imul C (pc := 29) d_M_layDown_29 ?_
              refine r_iconst C (pc := 30) d_M_layDown_30 ?_
              refine r_iadd C (pc := 31) d_M_layDown_31 ?_
              refine r_icmp_ge C (pc := 32) (tgt := 86) (by omega) (by omega) d_M_layDown_32 (by decide) (fun c32b => ?_) (fun c32b => ?_)
              · exact absurd c32b (by omega)
              · refine r_ald0 C (pc := 35) d_M_layDown_35 ?_
                refine gM_M_isDown C (pc := 36) hS k_660 d_M_layDown_36 ?_
                refine r_ild1 C (pc := 39) d_M_layDown_39 ?_
                refine r_ald0 C (pc := 40) d_M_layDown_40 ?_
                refine gM_M_isDown C (pc := 41) hS k_660 d_M_layDown_41 ?_
                refine r_ild1 C (pc := 44) d_M_layDown_44 ?_
                refine M_baldN C (pc := 45) hS (i) (by omega) rfl (by decide) (by omega) (by decide) d_M_layDown_45 ?_
                rw [zI_same]
                refine r_if_ne C (pc := 46) (tgt := 74) (by omega) d_M_layDown_46 (by decide) (fun c46b => ?_) (fun c46b => ?_)
                · refine r_iconst C (pc := 74) d_M_layDown_74 ?_
                  refine r_goto C (pc := 75) (tgt := 79) d_M_layDown_75 (by decide) ?_
                  refine M_bastN C (pc := 79) hS (i) (by omega) rfl (by decide) (by omega) (by decide) (by first | exact Or.inl rfl | exact Or.inr rfl | exact zb_01 _ | assumption)  d_M_layDown_79 ?_
                  rw [zI_zI]
                  refine r_iinc2 C (pc := 80) rfl d_M_layDown_80 ?_
                  refine r_goto C (pc := 83) (tgt := 26) d_M_layDown_83 (by decide) ?_
                  refine r_ild2 C (pc := 26) d_M_layDown_26 ?_
                  refine r_iconst C (pc := 27) d_M_layDown_27 ?_
                  refine r_ild1 C (pc := 28) d_M_layDown_28 ?_
                  refine r_imul C (pc := 29) d_M_layDown_29 ?_
                  refine r_iconst C (pc := 30) d_M_layDown_30 ?_
                  refine r_iadd C (pc := 31) d_M_layDown_31 ?_
                  refine r_icmp_ge C (pc := 32) (tgt := 86) (by omega) (by omega) d_M_layDown_32 (by decide) (fun c32c => ?_) (fun c32c => ?_)
                  · refine r_iinc1 C (pc := 86) rfl d_M_layDown_86 ?_
                    refine r_goto C (pc := 89) (tgt := 2) d_M_layDown_89 (by decide) ?_
                    refine r_weak ?_ (ih (i + 1) _ (by omega) (qM_I g1 (Or.inl rfl)) g2 (fun b hb => by
                      by_cases e : b = i
                      · subst e
                        rw [zI_same, dn_at]
                        first
                        | (exfalso; omega)
                        | exact zb_t (by simp only [Bool.or_eq_true, Bool.and_eq_true, decide_eq_true_eq]; grind)
                        | exact zb_f (by simp only [Bool.or_eq_true, Bool.and_eq_true, decide_eq_true_eq]; grind)
                      · rw [zI_o (by omega), dn_ne S fal e]; exact g3 b (by omega)) (by omega))
                    exact ⟨Or.inr rfl, Or.inr rfl, Or.inl rfl, trivial⟩
                  · exact absurd c32c (by omega)
                · refine r_ald0 C (pc := 49) d_M_layDown_49 ?_
                  refine gM_M_seatOn C (pc := 50) hS k_646 d_M_layDown_50 ?_
                  refine r_ild2 C (pc := 53) d_M_layDown_53 ?_
                  refine M_ialdN C (pc := 54) hS (((2 * i) + 1)) (by omega) rfl (by decide) (by omega) (by decide) d_M_layDown_54 ?_
                  first | rw [zI_o (by omega), hq0] | rw [zI_o (by omega), hq1]
                  refine r_ldc C (pc := 55) (z := (-900009)) k_796 rfl d_M_layDown_55 ?_
                  refine r_icmp_eq C (pc := 57) (tgt := 78) (by omega) (by omega) d_M_layDown_57 (by decide) (fun c57b => ?_) (fun c57b => ?_)
                  · refine r_iconst C (pc := 78) d_M_layDown_78 ?_
                    refine M_bastN C (pc := 79) hS (i) (by omega) rfl (by decide) (by omega) (by decide) (by first | exact Or.inl rfl | exact Or.inr rfl | exact zb_01 _ | assumption)  d_M_layDown_79 ?_
                    rw [zI_zI]
                    refine r_iinc2 C (pc := 80) rfl d_M_layDown_80 ?_
                    refine r_goto C (pc := 83) (tgt := 26) d_M_layDown_83 (by decide) ?_
                    refine r_ild2 C (pc := 26) d_M_layDown_26 ?_
                    refine r_iconst C (pc := 27) d_M_layDown_27 ?_
                    refine r_ild1 C (pc := 28) d_M_layDown_28 ?_
                    refine r_imul C (pc := 29) d_M_layDown_29 ?_
                    refine r_iconst C (pc := 30) d_M_layDown_30 ?_
                    refine r_iadd C (pc := 31) d_M_layDown_31 ?_
                    refine r_icmp_ge C (pc := 32) (tgt := 86) (by omega) (by omega) d_M_layDown_32 (by decide) (fun c32c => ?_) (fun c32c => ?_)
                    · refine r_iinc1 C (pc := 86) rfl d_M_layDown_86 ?_
                      refine r_goto C (pc := 89) (tgt := 2) d_M_layDown_89 (by decide) ?_
                      refine r_weak ?_ (ih (i + 1) _ (by omega) (qM_I g1 (Or.inl rfl)) g2 (fun b hb => by
                        by_cases e : b = i
                        · subst e
                          rw [zI_same, dn_at]
                          first
                          | (exfalso; omega)
                          | exact zb_t (by simp only [Bool.or_eq_true, Bool.and_eq_true, decide_eq_true_eq]; grind)
                          | exact zb_f (by simp only [Bool.or_eq_true, Bool.and_eq_true, decide_eq_true_eq]; grind)
                        · rw [zI_o (by omega), dn_ne S fal e]; exact g3 b (by omega)) (by omega))
                      exact ⟨Or.inr rfl, Or.inr rfl, Or.inl rfl, trivial⟩
                    · exact absurd c32c (by omega)
                  · refine r_ald0 C (pc := 60) d_M_layDown_60 ?_
                    refine gM_M_isDown C (pc := 61) hS k_660 d_M_layDown_61 ?_
                    refine r_ald0 C (pc := 64) d_M_layDown_64 ?_
                    refine gM_M_seatOn C (pc := 65) hS k_646 d_M_layDown_65 ?_
                    refine r_ild2 C (pc := 68) d_M_layDown_68 ?_
                    refine M_ialdN C (pc := 69) hS (((2 * i) + 1)) (by omega) rfl (by decide) (by omega) (by decide) d_M_layDown_69 ?_
                    first | rw [zI_o (by omega), hq0] | rw [zI_o (by omega), hq1]
                    refine M_bald C (pc := 70) hS rfl (by decide) (by omega) (by omega) (by decide) d_M_layDown_70 ?_
                    rw [zI_o (by omega), g3 _ (by omega)]
                    refine r_ifeqB C (pc := 71) (tgt := 78) d_M_layDown_71 (by decide) (fun c71b => ?_) (fun c71b => ?_)
                    · refine r_iconst C (pc := 78) d_M_layDown_78 ?_
                      refine M_bastN C (pc := 79) hS (i) (by omega) rfl (by decide) (by omega) (by decide) (by first | exact Or.inl rfl | exact Or.inr rfl | exact zb_01 _ | assumption)  d_M_layDown_79 ?_
                      rw [zI_zI]
                      refine r_iinc2 C (pc := 80) rfl d_M_layDown_80 ?_
                      refine r_goto C (pc := 83) (tgt := 26) d_M_layDown_83 (by decide) ?_
                      refine r_ild2 C (pc := 26) d_M_layDown_26 ?_
                      refine r_iconst C (pc := 27) d_M_layDown_27 ?_
                      refine r_ild1 C (pc := 28) d_M_layDown_28 ?_
                      refine r_imul C (pc := 29) d_M_layDown_29 ?_
                      refine r_iconst C (pc := 30) d_M_layDown_30 ?_
                      refine r_iadd C (pc := 31) d_M_layDown_31 ?_
                      refine r_icmp_ge C (pc := 32) (tgt := 86) (by omega) (by omega) d_M_layDown_32 (by decide) (fun c32c => ?_) (fun c32c => ?_)
                      · refine r_iinc1 C (pc := 86) rfl d_M_layDown_86 ?_
                        refine r_goto C (pc := 89) (tgt := 2) d_M_layDown_89 (by decide) ?_
                        refine r_weak ?_ (ih (i + 1) _ (by omega) (qM_I g1 (Or.inl rfl)) g2 (fun b hb => by
                          by_cases e : b = i
                          · subst e
                            rw [zI_same, dn_at]
                            first
                            | (exfalso; omega)
                            | exact zb_t (by simp only [Bool.or_eq_true, Bool.and_eq_true, decide_eq_true_eq]; grind)
                            | exact zb_f (by simp only [Bool.or_eq_true, Bool.and_eq_true, decide_eq_true_eq]; grind)
                          · rw [zI_o (by omega), dn_ne S fal e]; exact g3 b (by omega)) (by omega))
                        exact ⟨Or.inr rfl, Or.inr rfl, Or.inl rfl, trivial⟩
                      · exact absurd c32c (by omega)
                    · refine r_iconst C (pc := 74) d_M_layDown_74 ?_
                      refine r_goto C (pc := 75) (tgt := 79) d_M_layDown_75 (by decide) ?_
                      refine M_bastN C (pc := 79) hS (i) (by omega) rfl (by decide) (by omega) (by decide) (by first | exact Or.inl rfl | exact Or.inr rfl | exact zb_01 _ | assumption)  d_M_layDown_79 ?_
                      rw [zI_zI]
                      refine r_iinc2 C (pc := 80) rfl d_M_layDown_80 ?_
                      refine r_goto C (pc := 83) (tgt := 26) d_M_layDown_83 (by decide) ?_
                      refine r_ild2 C (pc := 26) d_M_layDown_26 ?_
                      refine r_iconst C (pc := 27) d_M_layDown_27 ?_
                      refine r_ild1 C (pc := 28) d_M_layDown_28 ?_
                      refine r_imul C (pc := 29) d_M_layDown_29 ?_
                      refine r_iconst C (pc := 30) d_M_layDown_30 ?_
                      refine r_iadd C (pc := 31) d_M_layDown_31 ?_
                      refine r_icmp_ge C (pc := 32) (tgt := 86) (by omega) (by omega) d_M_layDown_32 (by decide) (fun c32c => ?_) (fun c32c => ?_)
                      · refine r_iinc1 C (pc := 86) rfl d_M_layDown_86 ?_
                        refine r_goto C (pc := 89) (tgt := 2) d_M_layDown_89 (by decide) ?_
                        refine r_weak ?_ (ih (i + 1) _ (by omega) (qM_I g1 (Or.inl rfl)) g2 (fun b hb => by
                          by_cases e : b = i
                          · subst e
                            rw [zI_same, dn_at]
                            first
                            | (exfalso; omega)
                            | exact zb_t (by simp only [Bool.or_eq_true, Bool.and_eq_true, decide_eq_true_eq]; grind)
                            | exact zb_f (by simp only [Bool.or_eq_true, Bool.and_eq_true, decide_eq_true_eq]; grind)
                          · rw [zI_o (by omega), dn_ne S fal e]; exact g3 b (by omega)) (by omega))
                        exact ⟨Or.inr rfl, Or.inr rfl, Or.inl rfl, trivial⟩
                      · exact absurd c32c (by omega)
            · refine r_iconst C (pc := 74) d_M_layDown_74 ?_
              refine r_goto C (pc := 75) (tgt := 79) d_M_layDown_75 (by decide) ?_
              refine M_bastN C (pc := 79) hS (i) (by omega) rfl (by decide) (by omega) (by decide) (by first | exact Or.inl rfl | exact Or.inr rfl | exact zb_01 _ | assumption)  d_M_layDown_79 ?_
              rw [zI_zI]
              refine r_iinc2 C (pc := 80) rfl d_M_layDown_80 ?_
              refine r_goto C (pc := 83) (tgt := 26) d_M_layDown_83 (by decide) ?_
              refine r_ild2 C (pc := 26) d_M_layDown_26 ?_
              refine r_iconst C (pc := 27) d_M_layDown_27 ?_
              refine r_ild1 C (pc := 28) d_M_layDown_28 ?_
              refine r_imul C (pc := 29) d_M_layDown_29 ?_
              refine r_iconst C (pc := 30) d_M_layDown_30 ?_
              refine r_iadd C (pc := 31) d_M_layDown_31 ?_
              refine r_icmp_ge C (pc := 32) (tgt := 86) (by omega) (by omega) d_M_layDown_32 (by decide) (fun c32b => ?_) (fun c32b => ?_)
              · exact absurd c32b (by omega)
              · refine r_ald0 C (pc := 35) d_M_layDown_35 ?_
                refine gM_M_isDown C (pc := 36) hS k_660 d_M_layDown_36 ?_
                refine r_ild1 C (pc := 39) d_M_layDown_39 ?_
                refine r_ald0 C (pc := 40) d_M_layDown_40 ?_
                refine gM_M_isDown C (pc := 41) hS k_660 d_M_layDown_41 ?_
                refine r_ild1 C (pc := 44) d_M_layDown_44 ?_
                refine M_baldN C (pc := 45) hS (i) (by omega) rfl (by decide) (by omega) (by decide) d_M_layDown_45 ?_
                rw [zI_same]
                refine r_if_ne C (pc := 46) (tgt := 74) (by omega) d_M_layDown_46 (by decide) (fun c46b => ?_) (fun c46b => ?_)
                · refine r_iconst C (pc := 74) d_M_layDown_74 ?_
                  refine r_goto C (pc := 75) (tgt := 79) d_M_layDown_75 (by decide) ?_
                  refine M_bastN C (pc := 79) hS (i) (by omega) rfl (by decide) (by omega) (by decide) (by first | exact Or.inl rfl | exact Or.inr rfl | exact zb_01 _ | assumption)  d_M_layDown_79 ?_
                  rw [zI_zI]
                  refine r_iinc2 C (pc := 80) rfl d_M_layDown_80 ?_
                  refine r_goto C (pc := 83) (tgt := 26) d_M_layDown_83 (by decide) ?_
                  refine r_ild2 C (pc := 26) d_M_layDown_26 ?_
                  refine r_iconst C (pc := 27) d_M_layDown_27 ?_
                  refine r_ild1 C (pc := 28) d_M_layDown_28 ?_
                  refine r_imul C (pc := 29) d_M_layDown_29 ?_
                  refine r_iconst C (pc := 30) d_M_layDown_30 ?_
                  refine r_iadd C (pc := 31) d_M_layDown_31 ?_
                  refine r_icmp_ge C (pc := 32) (tgt := 86) (by omega) (by omega) d_M_layDown_32 (by decide) (fun c32c => ?_) (fun c32c => ?_)
                  · refine r_iinc1 C (pc := 86) rfl d_M_layDown_86 ?_
                    refine r_goto C (pc := 89) (tgt := 2) d_M_layDown_89 (by decide) ?_
                    refine r_weak ?_ (ih (i + 1) _ (by omega) (qM_I g1 (Or.inl rfl)) g2 (fun b hb => by
                      by_cases e : b = i
                      · subst e
                        rw [zI_same, dn_at]
                        first
                        | (exfalso; omega)
                        | exact zb_t (by simp only [Bool.or_eq_true, Bool.and_eq_true, decide_eq_true_eq]; grind)
                        | exact zb_f (by simp only [Bool.or_eq_true, Bool.and_eq_true, decide_eq_true_eq]; grind)
                      · rw [zI_o (by omega), dn_ne S fal e]; exact g3 b (by omega)) (by omega))
                    exact ⟨Or.inr rfl, Or.inr rfl, Or.inl rfl, trivial⟩
                  · exact absurd c32c (by omega)
                · refine r_ald0 C (pc := 49) d_M_layDown_49 ?_
                  refine gM_M_seatOn C (pc := 50) hS k_646 d_M_layDown_50 ?_
                  refine r_ild2 C (pc := 53) d_M_layDown_53 ?_
                  refine M_ialdN C (pc := 54) hS (((2 * i) + 1)) (by omega) rfl (by decide) (by omega) (by decide) d_M_layDown_54 ?_
                  first | rw [zI_o (by omega), hq0] | rw [zI_o (by omega), hq1]
                  refine r_ldc C (pc := 55) (z := (-900009)) k_796 rfl d_M_layDown_55 ?_
                  refine r_icmp_eq C (pc := 57) (tgt := 78) (by omega) (by omega) d_M_layDown_57 (by decide) (fun c57b => ?_) (fun c57b => ?_)
                  · refine r_iconst C (pc := 78) d_M_layDown_78 ?_
                    refine M_bastN C (pc := 79) hS (i) (by omega) rfl (by decide) (by omega) (by decide) (by first | exact Or.inl rfl | exact Or.inr rfl | exact zb_01 _ | assumption)  d_M_layDown_79 ?_
                    rw [zI_zI]
                    refine r_iinc2 C (pc := 80) rfl d_M_layDown_80 ?_
                    refine r_goto C (pc := 83) (tgt := 26) d_M_layDown_83 (by decide) ?_
                    refine r_ild2 C (pc := 26) d_M_layDown_26 ?_
                    refine r_iconst C (pc := 27) d_M_layDown_27 ?_
                    refine r_ild1 C (pc := 28) d_M_layDown_28 ?_
                    refine r_imul C (pc := 29) d_M_layDown_29 ?_
                    refine r_iconst C (pc := 30) d_M_layDown_30 ?_
                    refine r_iadd C (pc := 31) d_M_layDown_31 ?_
                    refine r_icmp_ge C (pc := 32) (tgt := 86) (by omega) (by omega) d_M_layDown_32 (by decide) (fun c32c => ?_) (fun c32c => ?_)
                    · refine r_iinc1 C (pc := 86) rfl d_M_layDown_86 ?_
                      refine r_goto C (pc := 89) (tgt := 2) d_M_layDown_89 (by decide) ?_
                      refine r_weak ?_ (ih (i + 1) _ (by omega) (qM_I g1 (Or.inl rfl)) g2 (fun b hb => by
                        by_cases e : b = i
                        · subst e
                          rw [zI_same, dn_at]
                          first
                          | (exfalso; omega)
                          | exact zb_t (by simp only [Bool.or_eq_true, Bool.and_eq_true, decide_eq_true_eq]; grind)
                          | exact zb_f (by simp only [Bool.or_eq_true, Bool.and_eq_true, decide_eq_true_eq]; grind)
                        · rw [zI_o (by omega), dn_ne S fal e]; exact g3 b (by omega)) (by omega))
                      exact ⟨Or.inr rfl, Or.inr rfl, Or.inl rfl, trivial⟩
                    · exact absurd c32c (by omega)
                  · refine r_ald0 C (pc := 60) d_M_layDown_60 ?_
                    refine gM_M_isDown C (pc := 61) hS k_660 d_M_layDown_61 ?_
                    refine r_ald0 C (pc := 64) d_M_layDown_64 ?_
                    refine gM_M_seatOn C (pc := 65) hS k_646 d_M_layDown_65 ?_
                    refine r_ild2 C (pc := 68) d_M_layDown_68 ?_
                    refine M_ialdN C (pc := 69) hS (((2 * i) + 1)) (by omega) rfl (by decide) (by omega) (by decide) d_M_layDown_69 ?_
                    first | rw [zI_o (by omega), hq0] | rw [zI_o (by omega), hq1]
                    refine M_bald C (pc := 70) hS rfl (by decide) (by omega) (by omega) (by decide) d_M_layDown_70 ?_
                    rw [zI_o (by omega), g3 _ (by omega)]
                    refine r_ifeqB C (pc := 71) (tgt := 78) d_M_layDown_71 (by decide) (fun c71b => ?_) (fun c71b => ?_)
                    · refine r_iconst C (pc := 78) d_M_layDown_78 ?_
                      refine M_bastN C (pc := 79) hS (i) (by omega) rfl (by decide) (by omega) (by decide) (by first | exact Or.inl rfl | exact Or.inr rfl | exact zb_01 _ | assumption)  d_M_layDown_79 ?_
                      rw [zI_zI]
                      refine r_iinc2 C (pc := 80) rfl d_M_layDown_80 ?_
                      refine r_goto C (pc := 83) (tgt := 26) d_M_layDown_83 (by decide) ?_
                      refine r_ild2 C (pc := 26) d_M_layDown_26 ?_
                      refine r_iconst C (pc := 27) d_M_layDown_27 ?_
                      refine r_ild1 C (pc := 28) d_M_layDown_28 ?_
                      refine r_imul C (pc := 29) d_M_layDown_29 ?_
                      refine r_iconst C (pc := 30) d_M_layDown_30 ?_
                      refine r_iadd C (pc := 31) d_M_layDown_31 ?_
                      refine r_icmp_ge C (pc := 32) (tgt := 86) (by omega) (by omega) d_M_layDown_32 (by decide) (fun c32c => ?_) (fun c32c => ?_)
                      · refine r_iinc1 C (pc := 86) rfl d_M_layDown_86 ?_
                        refine r_goto C (pc := 89) (tgt := 2) d_M_layDown_89 (by decide) ?_
                        refine r_weak ?_ (ih (i + 1) _ (by omega) (qM_I g1 (Or.inl rfl)) g2 (fun b hb => by
                          by_cases e : b = i
                          · subst e
                            rw [zI_same, dn_at]
                            first
                            | (exfalso; omega)
                            | exact zb_t (by simp only [Bool.or_eq_true, Bool.and_eq_true, decide_eq_true_eq]; grind)
                            | exact zb_f (by simp only [Bool.or_eq_true, Bool.and_eq_true, decide_eq_true_eq]; grind)
                          · rw [zI_o (by omega), dn_ne S fal e]; exact g3 b (by omega)) (by omega))
                        exact ⟨Or.inr rfl, Or.inr rfl, Or.inl rfl, trivial⟩
                      · exact absurd c32c (by omega)
                    · refine r_iconst C (pc := 74) d_M_layDown_74 ?_
                      refine r_goto C (pc := 75) (tgt := 79) d_M_layDown_75 (by decide) ?_
                      refine M_bastN C (pc := 79) hS (i) (by omega) rfl (by decide) (by omega) (by decide) (by first | exact Or.inl rfl | exact Or.inr rfl | exact zb_01 _ | assumption)  d_M_layDown_79 ?_
                      rw [zI_zI]
                      refine r_iinc2 C (pc := 80) rfl d_M_layDown_80 ?_
                      refine r_goto C (pc := 83) (tgt := 26) d_M_layDown_83 (by decide) ?_
                      refine r_ild2 C (pc := 26) d_M_layDown_26 ?_
                      refine r_iconst C (pc := 27) d_M_layDown_27 ?_
                      refine r_ild1 C (pc := 28) d_M_layDown_28 ?_
                      refine r_imul C (pc := 29) d_M_layDown_29 ?_
                      refine r_iconst C (pc := 30) d_M_layDown_30 ?_
                      refine r_iadd C (pc := 31) d_M_layDown_31 ?_
                      refine r_icmp_ge C (pc := 32) (tgt := 86) (by omega) (by omega) d_M_layDown_32 (by decide) (fun c32c => ?_) (fun c32c => ?_)
                      · refine r_iinc1 C (pc := 86) rfl d_M_layDown_86 ?_
                        refine r_goto C (pc := 89) (tgt := 2) d_M_layDown_89 (by decide) ?_
                        refine r_weak ?_ (ih (i + 1) _ (by omega) (qM_I g1 (Or.inl rfl)) g2 (fun b hb => by
                          by_cases e : b = i
                          · subst e
                            rw [zI_same, dn_at]
                            first
                            | (exfalso; omega)
                            | exact zb_t (by simp only [Bool.or_eq_true, Bool.and_eq_true, decide_eq_true_eq]; grind)
                            | exact zb_f (by simp only [Bool.or_eq_true, Bool.and_eq_true, decide_eq_true_eq]; grind)
                          · rw [zI_o (by omega), dn_ne S fal e]; exact g3 b (by omega)) (by omega))
                        exact ⟨Or.inr rfl, Or.inr rfl, Or.inl rfl, trivial⟩
                      · exact absurd c32c (by omega)
set_option maxRecDepth 20000 in
theorem c_M_layDown (l : Launch) (E : zE) (M : zM) (S : zS) (hR : RM S M) (hO : ok S) (fal ps : Nat → Bool) (hTT : hT S M fal ps) : zK l sM E y_M_layDown b_M_layDown 3 none 0 0 [.ref (E.2.2 0)] M (zPv (fun M2 => qM M M2 ∧ M2.2 = M.2 ∧ ∀ b, b < S.1 0 → M2.1 22 b = zb (dA S fal b = true))) := by
  refine zK.of "OldBeamsModel" rfl (by decide) (Nat.le_of_ble_eq_true rfl) ?_
  intro G hS hE hQ hL C
  subst hE
  subst hL
  show VJ G M 0 [some (.ref (G.2.1.2.2 0)), none, none] []
  refine r_iconst C (pc := 0) d_M_layDown_0 ?_
  refine r_ist1 C (pc := 1) rfl d_M_layDown_1 ?_
  refine r_weak ?_ (l_M_layDown_2 C hS M S hR hO fal ps hTT hQ (S.1 0 + 1) 0 M (by omega) (qM.rf M) rfl (fun b hb => absurd hb (Nat.not_lt_zero b)) (by omega))
  exact ⟨Or.inr rfl, Or.inr rfl, Or.inl rfl, trivial⟩
