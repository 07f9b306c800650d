/-- the best of the sets below s -/
def bpI (S : zS) (y : Int) (s : Nat) (best : Int) : Prop := (best = -900009 ∧ ∀ r, r < s → okT S y r = false) ∨ (∃ t : Nat, best = (t : Int) ∧ t < s ∧ okT S y t = true ∧ ∀ r, r < s → okT S y r = true → r ≠ t → cn t < cn r ∨ (cn t = cn r ∧ rv r < rv t))
theorem rv_inj {a b : Nat} (ha : a < 256) (hb : b < 256) (h : rv a = rv b) : a = b := by
  rw [← (rv_tab a ha).2.1, ← (rv_tab b hb).2.1, h]
theorem bp_up {S : zS} {y : Int} {s : Nat} {best : Int} (h : bpI S y s best) (hf : ∀ t : Nat, best = (t : Int) → cn s < cn t ∨ (cn s = cn t ∧ rv t < rv s)) : bpI S y (s + 1) (if okT S y s = true then (s : Int) else best) := by
  by_cases q : okT S y s = true
  · rw [if_pos q]
    refine Or.inr ⟨s, rfl, by omega, q, fun r h1 h2 h3 => ?_⟩
    rcases h with ⟨e, h4⟩ | ⟨t, e, h4, h5, h6⟩
    · rw [h4 r (by omega)] at h2; exact absurd h2 (by decide)
    · have := hf t e
      by_cases z : r = t
      · subst z; omega
      · have := h6 r (by omega) h2 z
        omega
  · rw [if_neg q]
    rcases h with ⟨e, h4⟩ | ⟨t, e, h4, h5, h6⟩
    · refine Or.inl ⟨e, fun r hr => ?_⟩
      by_cases z : r = s
      · rw [z]; exact Bool.eq_false_iff.mpr q
      · exact h4 r (by omega)
    · refine Or.inr ⟨t, e, by omega, h5, fun r h1 h2 h3 => ?_⟩
      by_cases z : r = s
      · rw [z] at h2; exact absurd h2 q
      · exact h6 r (by omega) h2 h3
theorem bp_no {S : zS} {y : Int} {s t : Nat} (hs : s < 256) (h : bpI S y s (t : Int)) (hf : ¬ (cn s < cn t ∨ (cn s = cn t ∧ rv t < rv s))) : bpI S y (s + 1) (t : Int) := by
  rcases h with ⟨e, h4⟩ | ⟨t2, e, h4, h5, h6⟩
  · omega
  · have et : t = t2 := by omega
    subst et
    refine Or.inr ⟨t, rfl, by omega, h5, fun r h1 h2 h3 => ?_⟩
    by_cases z : r = s
    · subst z
      have hne : rv r ≠ rv t := fun q => h3 (rv_inj hs (by omega) q)
      omega
    · exact h6 r (by omega) h2 h3
theorem okT_Q {S : zS} (hO : ok S) {y : Int} (hnd : ∀ b, b < S.1 0 → dA S (flS S) b = false) {s : Nat} (hs : s < 2 ^ S.1 3) : okT S y s = okQ S (knS S y) (rv s) := by
  have hcap := hO.1
  have hp2 : 2 ^ S.1 3 ≤ 256 := (show 2 ^ S.1 3 ≤ 2 ^ 8 from Nat.pow_le_pow_right (n := 2) (by decide) (by omega))
  unfold okT stG okQ
  rw [rv_msk (S.1 3) (by omega) s (by omega), decide_eq_true hs, Bool.true_and, (alN_iff _ _).mpr (fun b hb => by rw [hnd b hb]; rfl), Bool.true_and]
  refine alN_cong _ (fun b hb => ?_)
  rw [shL_0 (by omega)]
  exact hoB_cong (fun p hp => by
    show (if p < S.1 3 then s.testBit p else psS S p) = (rv s).testBit (7 - p)
    rw [if_pos hp, (rv_tab s (by omega)).2.2.2 p (by omega)]) (fun j hj => hnd j hj)
theorem okT_dn {S : zS} {y : Int} (hnd : ¬ ∀ b, b < S.1 0 → dA S (flS S) b = false) (s : Nat) : okT S y s = false := by
  refine Bool.eq_false_iff.mpr (fun h => hnd (fun b hb => ?_))
  unfold okT stG at h
  have := (alN_iff _ _).mp ((Bool.and_eq_true _ _).mp h).1 b hb
  simpa using this
theorem okQ_of {S : zS} (hO : ok S) {y : Int} (hnd : ∀ b, b < S.1 0 → dA S (flS S) b = false) {q : Nat} (hq : q < 256) (h : okQ S (knS S y) q = true) : rv q < 2 ^ S.1 3 ∧ okT S y (rv q) = true := by
  have hcap := hO.1
  have t := rv_tab q hq
  have h1 : rv q < 2 ^ S.1 3 := by
    have h2 : decide (q &&& (255 / 2 ^ S.1 3) = 0) = true := by unfold okQ at h; exact ((Bool.and_eq_true _ _).mp h).1
    have h3 := rv_msk (S.1 3) (by omega) (rv q) t.1
    rw [t.2.1, h2] at h3
    exact of_decide_eq_true h3.symm
  exact ⟨h1, by rw [okT_Q hO hnd h1, t.2.1]; exact h⟩
theorem fw_end {S : zS} (hO : ok S) {y best : Int} (h : bpI S y (2 ^ S.1 3) best) : best = (if FW S (knS S y) = -900009 then -900009 else (rv (FW S (knS S y)).toNat : Int)) := by
  have hcap := hO.1
  have hp2 : 2 ^ S.1 3 ≤ 256 := (show 2 ^ S.1 3 ≤ 2 ^ 8 from Nat.pow_le_pow_right (n := 2) (by decide) (by omega))
  by_cases hnd : ∀ b, b < S.1 0 → dA S (flS S) b = false
  · rcases h with ⟨e, h4⟩ | ⟨t, e, h4, h5, h6⟩
    · have hb : bsN (okQ S (knS S y)) 256 = 256 := bsN_none (fun q hq => Bool.eq_false_iff.mpr (fun z => by
        obtain ⟨w1, w2⟩ := okQ_of hO hnd hq z
        rw [h4 _ w1] at w2
        exact absurd w2 (by decide)))
      have hF : FW S (knS S y) = -900009 := by unfold FW; rw [hb, if_neg (fun z => absurd z.2 (by decide))]
      rw [hF, if_pos rfl]; exact e
    · have t1 := rv_tab t (by omega)
      have hb : bsN (okQ S (knS S y)) 256 = rv t := bsN_of ⟨t1.1, by rw [← okT_Q hO hnd h4]; exact h5, fun r h7 h8 h9 => by
        obtain ⟨w1, w2⟩ := okQ_of hO hnd h7 h8
        have t2 := rv_tab r h7
        have := h6 (rv r) w1 w2 (fun z => h9 (by rw [← z, t2.2.1]))
        rw [t2.2.1, t2.2.2.1] at this
        rw [t1.2.2.1]
        exact this⟩
      have hF : FW S (knS S y) = (rv t : Int) := by unfold FW; rw [hb, if_pos ⟨hnd, t1.1⟩]
      rw [hF, if_neg (by omega), Int.toNat_natCast, t1.2.1]; exact e
  · have hF : FW S (knS S y) = -900009 := by unfold FW; rw [if_neg (fun z => hnd z.1)]
    rw [hF, if_pos rfl]
    rcases h with ⟨e, h4⟩ | ⟨t, e, h4, h5, h6⟩
    · exact e
    · rw [okT_dn hnd t] at h5; exact absurd h5 (by decide)
theorem FW_lt {S : zS} (hO : ok S) {y : Int} (h : FW S (knS S y) ≠ -900009) : rv (FW S (knS S y)).toNat < 2 ^ S.1 3 := by
  unfold FW at h ⊢
  by_cases q : (∀ b, b < S.1 0 → dA S (flS S) b = false) ∧ bsN (okQ S (knS S y)) 256 < 256
  · rw [if_pos q, Int.toNat_natCast]
    rcases bsN_is (okQ S (knS S y)) 256 (Nat.le_refl _) with ⟨w, -⟩ | ⟨w1, w2, -⟩
    · omega
    · exact (okQ_of hO q.1 q.2 w2).1
  · rw [if_neg q] at h; exact absurd rfl h
set_option maxRecDepth 20000 in
theorem l_M_bestProps_5 {G : zG} (C : zC G b_M_bestProps "OldBeamsModel" (some .int) 6 5 127) (hS : G.1 = sM) (M : zM) (S : zS) (hR : RM S M) (hO : ok S) (y : Int) (hy : 0 ≤ y ∧ y ≤ 500) (hQ : G.2.2.1 = zPi (fun r M2 => r = (if FW S (knS S y) = -900009 then -900009 else (rv (FW S (knS S y)).toNat : Int)) ∧ kM M M2)) : ∀ (n : Nat) (s : Nat) (best : Int) (N : zM), (s ≤ 2 ^ S.1 3) → (kM M N) → (bpI S y s best) → (2 ^ S.1 3 - s < n) → VJ G N 5 [some (.ref (zad G 0)), some (.int (iI y)), some (.int (iI best)), some (.int (iI (s : Int))), none, none] [] := by
  intro n
  induction n with
  | zero =>
    intro s best N hs g1 hin hn
    exact absurd hn (by omega)
  | succ n ih =>
    intro s best N hs g1 hin hn
    have hcap := hO.1
    have hp2 : 2 ^ S.1 3 ≤ 256 := (show 2 ^ S.1 3 ≤ 2 ^ 8 from Nat.pow_le_pow_right (n := 2) (by decide) (by omega))
    have hRN := RMk hR hO g1
    have hbr : best = -900009 ∨ (0 ≤ best ∧ best < 256) := by
      rcases hin with ⟨e, -⟩ | ⟨t, e, h4, -⟩ <;> omega
    refine r_ild3 C (pc := 5) d_M_bestProps_5 ?_
    refine r_iconst C (pc := 6) d_M_bestProps_6 ?_
    refine r_ald0 C (pc := 7) d_M_bestProps_7 ?_
    refine gM_M_props C (pc := 8) hS k_653 d_M_bestProps_8 ?_
    rw [hRN.1.2.2.2]
    refine r_ishl C (pc := 11) (bi_shl (by omega)) d_M_bestProps_11 ?_
    refine r_icmp_ge C (pc := 12) (tgt := 133) (by omega) (by omega) d_M_bestProps_12 (by decide) (fun c12 => ?_) (fun c12 => ?_)
    · refine r_ild2 C (pc := 133) d_M_bestProps_133 ?_
      exact r_iret C (pc := 134) hQ (⟨fw_end hO (by rw [show s = 2 ^ S.1 3 by omega] at hin; exact hin), g1⟩) d_M_bestProps_134
    · refine r_ild2 C (pc := 15) d_M_bestProps_15 ?_
      refine r_ldc C (pc := 16) (z := (-900009)) k_796 rfl d_M_bestProps_16 ?_
      refine r_icmp_eq C (pc := 18) (tgt := 51) (by omega) (by omega) d_M_bestProps_18 (by decide) (fun c18 => ?_) (fun c18 => ?_)
      · refine r_iconst C (pc := 51) d_M_bestProps_51 ?_
        refine r_goto C (pc := 52) (tgt := 56) d_M_bestProps_52 (by decide) ?_
        refine r_ist4 C (pc := 56) rfl d_M_bestProps_56 ?_
        exact l_M_bestProps_58f1 C hS M S hR hO y hy s (by omega) _ (fun N2 h => ih (s + 1) _ N2 (by omega) h (bp_up hin (fun t2 e => by first | (exfalso; omega) | (rw [show t2 = t by omega]; omega))) (by omega)) hQ N g1
      · obtain ⟨t, ht⟩ := Int.eq_ofNat_of_zero_le (show 0 ≤ best by omega)
        subst ht
        have hc1 := dcnt_le (fun i => Nat.testBit s i) 12
        have hc2 := dcnt_le (fun i => Nat.testBit t i) 12
        rw [show dcnt (fun i => Nat.testBit s i) 12 = cn s from rfl] at hc1
        rw [show dcnt (fun i => Nat.testBit t i) 12 = cn t from rfl] at hc2
        refine r_ild3 C (pc := 21) d_M_bestProps_21 ?_
        refine call_M_ones C (pc := 22) hS (c_M_ones _ _ _ s (by omega)) k_1018 (by decide) (Nat.le_of_ble_eq_true rfl) rfl d_M_bestProps_22 (kkI (fun r22 N22 h22 => ?_))
        obtain ⟨rfl, rfl⟩ := h22
        refine r_ild2 C (pc := 25) d_M_bestProps_25 ?_
        refine call_M_ones C (pc := 26) hS (c_M_ones _ _ _ t (by omega)) k_1018 (by decide) (Nat.le_of_ble_eq_true rfl) rfl d_M_bestProps_26 (kkI (fun r26 N26 h26 => ?_))
        obtain ⟨rfl, rfl⟩ := h26
        refine r_icmp_lt C (pc := 29) (tgt := 51) (by omega) (by omega) d_M_bestProps_29 (by decide) (fun c29 => ?_) (fun c29 => ?_)
        · refine r_iconst C (pc := 51) d_M_bestProps_51 ?_
          refine r_goto C (pc := 52) (tgt := 56) d_M_bestProps_52 (by decide) ?_
          refine r_ist4 C (pc := 56) rfl d_M_bestProps_56 ?_
          exact l_M_bestProps_58f1 C hS M S hR hO y hy s (by omega) _ (fun N2 h => ih (s + 1) _ N2 (by omega) h (bp_up hin (fun t2 e => by first | (exfalso; omega) | (rw [show t2 = t by omega]; omega))) (by omega)) hQ N g1
        · refine r_ild3 C (pc := 32) d_M_bestProps_32 ?_
          refine call_M_ones C (pc := 33) hS (c_M_ones _ _ _ s (by omega)) k_1018 (by decide) (Nat.le_of_ble_eq_true rfl) rfl d_M_bestProps_33 (kkI (fun r33 N33 h33 => ?_))
          obtain ⟨rfl, rfl⟩ := h33
          refine r_ild2 C (pc := 36) d_M_bestProps_36 ?_
          refine call_M_ones C (pc := 37) hS (c_M_ones _ _ _ t (by omega)) k_1018 (by decide) (Nat.le_of_ble_eq_true rfl) rfl d_M_bestProps_37 (kkI (fun r37 N37 h37 => ?_))
          obtain ⟨rfl, rfl⟩ := h37
          refine r_icmp_ne C (pc := 40) (tgt := 55) (by omega) (by omega) d_M_bestProps_40 (by decide) (fun c40 => ?_) (fun c40 => ?_)
          · refine r_iconst C (pc := 55) d_M_bestProps_55 ?_
            refine r_ist4 C (pc := 56) rfl d_M_bestProps_56 ?_
            exact l_M_bestProps_58f0 C hS M S hR hO y hy s (by omega) _ (fun N2 h => ih (s + 1) _ N2 (by omega) h (bp_no (by omega) hin (by omega)) (by omega)) hQ N g1
          · refine r_ild3 C (pc := 43) d_M_bestProps_43 ?_
            refine r_ild2 C (pc := 44) d_M_bestProps_44 ?_
            refine call_M_isFirst C (pc := 45) hS (c_M_isFirst _ _ _ s t (by omega) (by omega)) k_1021 (by decide) (Nat.le_of_ble_eq_true rfl) rfl d_M_bestProps_45 (kkI (fun r45 N45 h45 => ?_))
            obtain ⟨rfl, rfl⟩ := h45
            refine r_ifeqB C (pc := 48) (tgt := 55) d_M_bestProps_48 (by decide) (fun c48 => ?_) (fun c48 => ?_)
            · refine r_iconst C (pc := 55) d_M_bestProps_55 ?_
              refine r_ist4 C (pc := 56) rfl d_M_bestProps_56 ?_
              exact l_M_bestProps_58f0 C hS M S hR hO y hy s (by omega) _ (fun N2 h => ih (s + 1) _ N2 (by omega) h (bp_no (by omega) hin (by omega)) (by omega)) hQ N g1
            · refine r_iconst C (pc := 51) d_M_bestProps_51 ?_
              refine r_goto C (pc := 52) (tgt := 56) d_M_bestProps_52 (by decide) ?_
              refine r_ist4 C (pc := 56) rfl d_M_bestProps_56 ?_
              exact l_M_bestProps_58f1 C hS M S hR hO y hy s (by omega) _ (fun N2 h => ih (s + 1) _ N2 (by omega) h (bp_up hin (fun t2 e => by first | (exfalso; omega) | (rw [show t2 = t by omega]; omega))) (by omega)) hQ N g1
set_option maxRecDepth 20000 in
theorem c_M_bestProps (l : Launch) (E : zE) (M : zM) (S : zS) (hR : RM S M) (hO : ok S) (y : Int) (hy : 0 ≤ y ∧ y ≤ 500) : zK l sM E y_M_bestProps b_M_bestProps 6 (some .int) 5 127 [.ref (E.2.2 0), .int (iI y)] M (zPi (fun r M2 => r = (if FW S (knS S y) = -900009 then -900009 else (rv (FW S (knS S y)).toNat : Int)) ∧ kM M M2)) := by
  refine zK.of "OldBeamsModel" rfl (by decide) (Nat.le_of_ble_eq_true rfl) ?_
  intro G hS hE hQ hL C
  subst hE
  subst hL
  show VJ G M 0 [some (.ref (G.2.1.2.2 0)), some (.int (iI y)), none, none, none, none] []
  refine r_ldc C (pc := 0) (z := (-900009)) k_796 rfl d_M_bestProps_0 ?_
  refine r_ist2 C (pc := 2) rfl d_M_bestProps_2 ?_
  refine r_iconst C (pc := 3) d_M_bestProps_3 ?_
  refine r_ist3 C (pc := 4) rfl d_M_bestProps_4 ?_
  exact l_M_bestProps_5 C hS M S hR hO y hy hQ (2 ^ S.1 3 + 1) 0 _ M (Nat.zero_le _) (kM.rf M) (Or.inl ⟨rfl, fun r hr => absurd hr (Nat.not_lt_zero r)⟩) (Nat.lt_succ_of_le (Nat.sub_le _ _))
set_option maxRecDepth 20000 in
theorem c_M_fewest (l : Launch) (E : zE) (M : zM) (S : zS) (hR : RM S M) (hO : ok S) (y : Int) (hy : -2147483648 ≤ y ∧ y < 2147483648) : zK l sM E y_M_fewest b_M_fewest 3 (some .int) 6 152 [.ref (E.2.2 0), .int (iI y)] M (zPi (fun r M2 => r = fFewest S y ∧ RM S M2)) := by
  refine zK.of "OldBeamsModel" rfl (by decide) (Nat.le_of_ble_eq_true rfl) ?_
  intro G hS hE hQ hL C
  subst hE
  subst hL
  show VJ G M 0 [some (.ref (G.2.1.2.2 0)), some (.int (iI y)), none] []
  have h12 := hO.n
  have hbn : M.1 0 2 = (S.1 0 : Int) := hR.1.1
  refine r_ild1 C (pc := 0) d_M_fewest_0 ?_
  refine call_M_isYear C (pc := 1) hS (c_M_isYear _ _ _ _ (by omega)) k_791 (by decide) (Nat.le_of_ble_eq_true rfl) rfl d_M_fewest_1 (kkI (fun r1 N1 h1 => ?_))
  obtain ⟨rfl, rfl⟩ := h1
  refine r_ifneB C (pc := 4) (tgt := 10) d_M_fewest_4 (by decide) (fun c4 => ?_) (fun c4 => ?_)
  · refine r_ald0 C (pc := 10) d_M_fewest_10 ?_
    refine r_ild1 C (pc := 11) d_M_fewest_11 ?_
    refine call_M_bestProps C (pc := 12) hS (c_M_bestProps _ _ M S hR hO y (by omega)) k_1014 (by decide) (Nat.le_of_ble_eq_true rfl) rfl d_M_fewest_12 (kkI (fun r12 N12 h12 => ?_))
    obtain ⟨rfl, f1⟩ := h12
    have hR2 := RMk hR hO f1
    have hfw := FW_rng S (knS S y)
    by_cases hno : FW S (knS S y) = -900009
    · rw [if_pos hno]
      refine r_ist2 C (pc := 15) rfl d_M_fewest_15 ?_
      refine r_ild2 C (pc := 16) d_M_fewest_16 ?_
      refine r_ldc C (pc := 17) (z := (-900009)) k_796 rfl d_M_fewest_17 ?_
      refine r_icmp_ne C (pc := 19) (tgt := 27) (by omega) (by omega) d_M_fewest_19 (by decide) (fun c19 => ?_) (fun c19 => ?_)
      · exact absurd rfl c19
      · refine r_ldc C (pc := 22) (z := (-900009)) k_796 rfl d_M_fewest_22 ?_
        refine r_goto C (pc := 24) (tgt := 31) d_M_fewest_24 (by decide) ?_
        exact r_iret C (pc := 31) hQ (⟨by unfold fFewest; rw [if_neg (show ¬ ¬ (0 ≤ y ∧ y ≤ 500) by omega), if_pos hno], hR2⟩) d_M_fewest_31
    · rw [if_neg hno]
      obtain ⟨q, hq⟩ : ∃ q : Nat, FW S (knS S y) = (q : Int) := ⟨(FW S (knS S y)).toNat, by omega⟩
      have t := rv_tab q (by omega)
      rw [hq, Int.toNat_natCast]
      have t1 := t.1
      refine r_ist2 C (pc := 15) rfl d_M_fewest_15 ?_
      refine r_ild2 C (pc := 16) d_M_fewest_16 ?_
      refine r_ldc C (pc := 17) (z := (-900009)) k_796 rfl d_M_fewest_17 ?_
      refine r_icmp_ne C (pc := 19) (tgt := 27) (by omega) (by omega) d_M_fewest_19 (by decide) (fun c19 => ?_) (fun c19 => ?_)
      · refine r_ild2 C (pc := 27) d_M_fewest_27 ?_
        refine call_M_ones C (pc := 28) hS (c_M_ones _ _ _ (rv q) t.1) k_1018 (by decide) (Nat.le_of_ble_eq_true rfl) rfl d_M_fewest_28 (kkI (fun r28 N28 h28 => ?_))
        obtain ⟨rfl, rfl⟩ := h28
        exact r_iret C (pc := 31) hQ (⟨by unfold fFewest; rw [if_neg (show ¬ ¬ (0 ≤ y ∧ y ≤ 500) by omega), if_neg hno, hq, Int.toNat_natCast, t.2.2.1], hR2⟩) d_M_fewest_31
      · exact absurd c19 (by omega)
  · refine r_ldc C (pc := 7) (z := (-900002)) k_784 rfl d_M_fewest_7 ?_
    exact r_iret C (pc := 9) hQ (⟨by unfold fFewest; rw [if_pos (by omega)], hR⟩) d_M_fewest_9
set_option maxRecDepth 20000 in
theorem l_M_needed_22 {G : zG} (C : zC G b_M_needed "OldBeamsModel" (some .int) 6 6 152) (hS : G.1 = sM) (M : zM) (S : zS) (hR : RM S M) (hO : ok S) (y i : Int) (hy : 0 ≤ y ∧ y ≤ 500) (hi : -2147483648 ≤ i ∧ i < 2147483648) (q : Nat) (hq : FW S (knS S y) = (q : Int)) (hq256 : q < 256) (N : zM) (hR2 : RM S N) (hQ : G.2.2.1 = zPi (fun r M2 => r = fNeeded S y i ∧ RM S M2)) : ∀ (n : Nat) (p : Nat), (p ≤ S.1 3) → (∀ j, j < p → (q.testBit (7 - j) && decide ((dcnt (fun r => q.testBit (7 - r)) j : Int) = i)) = false) → (S.1 3 - p < n) → VJ G N 22 [some (.ref (zad G 0)), some (.int (iI y)), some (.int (iI i)), some (.int (iI (rv q : Int))), some (.int (iI (i - (dcnt (fun r => q.testBit (7 - r)) p : Int)))), some (.int (iI (p : Int)))] [] := by
  intro n
  induction n with
  | zero =>
    intro p hp hno hn
    exact absurd hn (by omega)
  | succ n ih =>
    intro p hp hno hn
    have hcap := hO.1
    have hdl := dcnt_le (fun r => q.testBit (7 - r)) p
    have es := dcnt_succ (fun r => q.testBit (7 - r)) p
    have t := rv_tab q hq256
    have t1 := t.1
    have hlt : rv q < 2 ^ S.1 3 := by have := FW_lt hO (y := y) (by rw [hq]; omega); rwa [hq, Int.toNat_natCast] at this
    have hbit : ∀ j, j < 8 → (rv q).testBit j = q.testBit (7 - j) := fun j hj => by have := t.2.2.2 (7 - j) (by omega); rwa [show 7 - (7 - j) = j by omega] at this
    have hend : (S.1 3 ≤ p ∨ i < 0) → ndN q i = 8 := fun hh => fsN_none 8 (fun j hj => by
      rcases hh with hh | hh
      · rcases Nat.lt_or_ge j p with w | w
        · exact hno j w
        · rw [← hbit j hj, Nat.testBit_lt_two_pow (Nat.lt_of_lt_of_le hlt (Nat.pow_le_pow_right (n := 2) (by decide) (by omega)))]; rfl
      · rw [decide_eq_false (by omega), Bool.and_false])
    refine r_ild5 C (pc := 22) d_M_needed_22 ?_
    refine r_ald0 C (pc := 24) d_M_needed_24 ?_
    refine gM_M_props C (pc := 25) hS k_653 d_M_needed_25 ?_
    rw [hR2.1.2.2.2]
    refine r_icmp_ge C (pc := 28) (tgt := 68) (by omega) (by omega) d_M_needed_28 (by decide) (fun c28 => ?_) (fun c28 => ?_)
    · refine r_ldc C (pc := 68) (z := (-900009)) k_796 rfl d_M_needed_68 ?_
      exact r_iret C (pc := 70) hQ (⟨by unfold fNeeded; rw [if_neg (show ¬ ¬ (0 ≤ y ∧ y ≤ 500) by omega), if_neg (by omega), hq, Int.toNat_natCast, hend (by omega), if_neg (by omega)], hR2⟩) d_M_needed_70
    · refine r_ild3 C (pc := 31) d_M_needed_31 ?_
      refine r_ldc C (pc := 32) (z := (-900009)) k_796 rfl d_M_needed_32 ?_
      refine r_icmp_eq C (pc := 34) (tgt := 68) (by omega) (by omega) d_M_needed_34 (by decide) (fun c34 => ?_) (fun c34 => ?_)
      · exact absurd c34 (by omega)
      · refine r_ild2 C (pc := 37) d_M_needed_37 ?_
        refine r_if_lt C (pc := 38) (tgt := 68) (by omega) d_M_needed_38 (by decide) (fun c38 => ?_) (fun c38 => ?_)
        · refine r_ldc C (pc := 68) (z := (-900009)) k_796 rfl d_M_needed_68 ?_
          exact r_iret C (pc := 70) hQ (⟨by unfold fNeeded; rw [if_neg (show ¬ ¬ (0 ≤ y ∧ y ≤ 500) by omega), if_neg (by omega), hq, Int.toNat_natCast, hend (by omega), if_neg (by omega)], hR2⟩) d_M_needed_70
        · refine r_ild3 C (pc := 41) d_M_needed_41 ?_
          refine r_ild5 C (pc := 42) d_M_needed_42 ?_
          refine r_ishr C (pc := 44) (bi_shr (by omega) (by omega)) d_M_needed_44 ?_
          refine r_iconst C (pc := 45) d_M_needed_45 ?_
          refine r_iand C (pc := 46) (bi_and _ 1) d_M_needed_46 ?_
          rw [bit_and, hbit p (by omega)]
          have hb01 : ((if q.testBit (7 - p) = true then 1 else 0 : Nat) : Int) = 0 ∨ ((if q.testBit (7 - p) = true then 1 else 0 : Nat) : Int) = 1 := by
            by_cases z : q.testBit (7 - p) = true
            · rw [if_pos z]; exact Or.inr rfl
            · rw [if_neg z]; exact Or.inl rfl
          refine r_iconst C (pc := 47) d_M_needed_47 ?_
          refine r_icmp_ne C (pc := 48) (tgt := 62) (by omega) (by omega) d_M_needed_48 (by decide) (fun c48 => ?_) (fun c48 => ?_)
          · have ht : q.testBit (7 - p) = false := by
              by_cases z : q.testBit (7 - p) = true
              · rw [if_pos z] at c48; exact absurd rfl c48
              · exact Bool.eq_false_iff.mpr z
            refine r_iinc5 C (pc := 62) rfl d_M_needed_62 ?_
            refine r_goto C (pc := 65) (tgt := 22) d_M_needed_65 (by decide) ?_
            refine r_weak ?_ (ih (p + 1) (by omega) (fun j hj => by
              rcases Nat.lt_or_ge j p with w | w
              · exact hno j w
              · rw [show j = p by omega, ht]; first | rfl | (simp only [Bool.true_and, decide_eq_false_iff_not]; omega)) (by omega))
            exact ⟨Or.inr rfl, Or.inr rfl, Or.inr rfl, Or.inr rfl, Or.inr (by rw [es, ht]; rfl), Or.inr rfl, trivial⟩
          · have ht : q.testBit (7 - p) = true := by
              by_cases z : q.testBit (7 - p) = true
              · exact z
              · rw [if_neg z] at c48; exact absurd c48 (by decide)
            refine r_ild4 C (pc := 51) d_M_needed_51 ?_
            refine r_if_ne C (pc := 53) (tgt := 59) (by omega) d_M_needed_53 (by decide) (fun c53 => ?_) (fun c53 => ?_)
            · refine r_iinc4 C (pc := 59) rfl d_M_needed_59 ?_
              refine r_iinc5 C (pc := 62) rfl d_M_needed_62 ?_
              refine r_goto C (pc := 65) (tgt := 22) d_M_needed_65 (by decide) ?_
              refine r_weak ?_ (ih (p + 1) (by omega) (fun j hj => by
                rcases Nat.lt_or_ge j p with w | w
                · exact hno j w
                · rw [show j = p by omega, ht]; first | rfl | (simp only [Bool.true_and, decide_eq_false_iff_not]; omega)) (by omega))
              exact ⟨Or.inr rfl, Or.inr rfl, Or.inr rfl, Or.inr rfl, Or.inr (by rw [es, ht]; rw [if_pos rfl, show i - ((dcnt (fun r => q.testBit (7 - r)) p + 1 : Nat) : Int) = i - (dcnt (fun r => q.testBit (7 - r)) p : Int) + -1 by omega]), Or.inr rfl, trivial⟩
            · refine r_ild5 C (pc := 56) d_M_needed_56 ?_
              exact r_iret C (pc := 58) hQ (⟨by unfold fNeeded; rw [if_neg (show ¬ ¬ (0 ≤ y ∧ y ≤ 500) by omega), if_neg (by omega), hq, Int.toNat_natCast, show ndN q i = p from fsN_at (by rw [ht]; simp only [Bool.true_and, decide_eq_true_eq]; omega) hno 8 (by omega), if_pos (by omega)], hR2⟩) d_M_needed_58
set_option maxRecDepth 20000 in
theorem c_M_needed (l : Launch) (E : zE) (M : zM) (S : zS) (hR : RM S M) (hO : ok S) (y i : Int) (hy : -2147483648 ≤ y ∧ y < 2147483648) (hi : -2147483648 ≤ i ∧ i < 2147483648) : zK l sM E y_M_needed b_M_needed 6 (some .int) 6 152 [.ref (E.2.2 0), .int (iI y), .int (iI i)] M (zPi (fun r M2 => r = fNeeded S y i ∧ RM S M2)) := by
  refine zK.of "OldBeamsModel" rfl (by decide) (Nat.le_of_ble_eq_true rfl) ?_
  intro G hS hE hQ hL C
  subst hE
  subst hL
  show VJ G M 0 [some (.ref (G.2.1.2.2 0)), some (.int (iI y)), some (.int (iI i)), none, none, none] []
  have h12 := hO.n
  have hbn : M.1 0 2 = (S.1 0 : Int) := hR.1.1
  refine r_ild1 C (pc := 0) d_M_needed_0 ?_
  refine call_M_isYear C (pc := 1) hS (c_M_isYear _ _ _ _ (by omega)) k_791 (by decide) (Nat.le_of_ble_eq_true rfl) rfl d_M_needed_1 (kkI (fun r1 N1 h1 => ?_))
  obtain ⟨rfl, rfl⟩ := h1
  refine r_ifneB C (pc := 4) (tgt := 10) d_M_needed_4 (by decide) (fun c4 => ?_) (fun c4 => ?_)
  · refine r_ald0 C (pc := 10) d_M_needed_10 ?_
    refine r_ild1 C (pc := 11) d_M_needed_11 ?_
    refine call_M_bestProps C (pc := 12) hS (c_M_bestProps _ _ M S hR hO y (by omega)) k_1014 (by decide) (Nat.le_of_ble_eq_true rfl) rfl d_M_needed_12 (kkI (fun r12 N12 h12 => ?_))
    obtain ⟨rfl, f1⟩ := h12
    have hR2 := RMk hR hO f1
    have hfw := FW_rng S (knS S y)
    by_cases hno : FW S (knS S y) = -900009
    · rw [if_pos hno]
      refine r_ist3 C (pc := 15) rfl d_M_needed_15 ?_
      refine r_ild2 C (pc := 16) d_M_needed_16 ?_
      refine r_ist4 C (pc := 17) rfl d_M_needed_17 ?_
      refine r_iconst C (pc := 19) d_M_needed_19 ?_
      refine r_ist5 C (pc := 20) rfl d_M_needed_20 ?_
      refine r_ild5 C (pc := 22) d_M_needed_22 ?_
      refine r_ald0 C (pc := 24) d_M_needed_24 ?_
      refine gM_M_props C (pc := 25) hS k_653 d_M_needed_25 ?_
      rw [hR2.1.2.2.2]
      have hcap := hO.1
      refine r_icmp_ge C (pc := 28) (tgt := 68) (by omega) (by omega) d_M_needed_28 (by decide) (fun c28 => ?_) (fun c28 => ?_)
      · refine r_ldc C (pc := 68) (z := (-900009)) k_796 rfl d_M_needed_68 ?_
        exact r_iret C (pc := 70) hQ (⟨by unfold fNeeded; rw [if_neg (show ¬ ¬ (0 ≤ y ∧ y ≤ 500) by omega), if_pos hno], hR2⟩) d_M_needed_70
      · refine r_ild3 C (pc := 31) d_M_needed_31 ?_
        refine r_ldc C (pc := 32) (z := (-900009)) k_796 rfl d_M_needed_32 ?_
        refine r_icmp_eq C (pc := 34) (tgt := 68) (by omega) (by omega) d_M_needed_34 (by decide) (fun c34 => ?_) (fun c34 => ?_)
        · refine r_ldc C (pc := 68) (z := (-900009)) k_796 rfl d_M_needed_68 ?_
          exact r_iret C (pc := 70) hQ (⟨by unfold fNeeded; rw [if_neg (show ¬ ¬ (0 ≤ y ∧ y ≤ 500) by omega), if_pos hno], hR2⟩) d_M_needed_70
        · exact absurd rfl c34
    · rw [if_neg hno]
      obtain ⟨q, hq⟩ : ∃ q : Nat, FW S (knS S y) = (q : Int) := ⟨(FW S (knS S y)).toNat, by omega⟩
      have t := rv_tab q (by omega)
      rw [hq, Int.toNat_natCast]
      have t1 := t.1
      refine r_ist3 C (pc := 15) rfl d_M_needed_15 ?_
      refine r_ild2 C (pc := 16) d_M_needed_16 ?_
      refine r_ist4 C (pc := 17) rfl d_M_needed_17 ?_
      refine r_iconst C (pc := 19) d_M_needed_19 ?_
      refine r_ist5 C (pc := 20) rfl d_M_needed_20 ?_
      refine r_weak ?_ (l_M_needed_22 C hS M S hR hO y i (by omega) hi q hq (by omega) N12 hR2 hQ (S.1 3 + 1) 0 (by omega) (fun j hj => absurd hj (Nat.not_lt_zero j)) (by omega))
      exact ⟨Or.inr rfl, Or.inr rfl, Or.inr rfl, Or.inr rfl, Or.inr (by rw [show i - ((dcnt (fun r => q.testBit (7 - r)) 0 : Nat) : Int) = i from Int.sub_zero i]), Or.inr rfl, trivial⟩
  · refine r_ldc C (pc := 7) (z := (-900002)) k_784 rfl d_M_needed_7 ?_
    exact r_iret C (pc := 9) hQ (⟨by unfold fNeeded; rw [if_pos (by omega)], hR⟩) d_M_needed_9
