def sN (f : Nat → Nat) : Nat → Nat
  | 0 => 0
  | n + 1 => sN f n + f n
def anN (p : Nat → Bool) : Nat → Bool
  | 0 => false
  | n + 1 => anN p n || p n
theorem anN_succ (p : Nat → Bool) (n : Nat) : anN p (n + 1) = (anN p n || p n) := rfl
theorem anN_at {p : Nat → Bool} : ∀ {n k : Nat}, k < n → p k = true → anN p n = true
  | 0, k, h, _ => absurd h (Nat.not_lt_zero k)
  | n + 1, k, h, hp => by
    rw [anN_succ]
    rcases Nat.lt_or_ge k n with q | q
    · rw [anN_at q hp]; rfl
    · rw [← show k = n by omega, hp, Bool.or_true]
theorem fsN_le (p : Nat → Bool) : ∀ n : Nat, fsN p n ≤ n
  | 0 => Nat.le_refl 0
  | n + 1 => by
    have ih := fsN_le p n
    unfold fsN
    split
    · omega
    · split <;> omega
theorem fsN_none {p : Nat → Bool} : ∀ n : Nat, (∀ j, j < n → p j = false) → fsN p n = n
  | 0, _ => rfl
  | n + 1, h => by
    have ih := fsN_none n (fun j hj => h j (by omega))
    unfold fsN
    rw [ih, if_neg (by omega), h n (by omega)]
    rfl
theorem fsN_at {p : Nat → Bool} {t : Nat} (ht : p t = true) (hl : ∀ j, j < t → p j = false) : ∀ n : Nat, t < n → fsN p n = t
  | 0, h => absurd h (Nat.not_lt_zero t)
  | n + 1, h => by
    rcases Nat.lt_or_ge t n with q | q
    · have ih := fsN_at ht hl n q
      unfold fsN
      rw [ih, if_pos q]
    · have e : t = n := by omega
      subst e
      unfold fsN
      rw [fsN_none t hl, if_neg (by omega), ht]
      rfl
theorem leastN_at {o : Nat → Nat} {t : Nat} (h11 : t < 11) (ht : o t ≠ 0) (hl : ∀ j, j < t → o j = 0) : leastN o = t := fsN_at (p := fun t => decide (o t ≠ 0)) (by simpa using ht) (fun j hj => by simpa using hl j hj) 11 h11
theorem mostN_at {o : Nat → Nat} {t : Nat} (ht : o t ≠ 0) : ∀ n : Nat, t < n → (∀ j, t < j → j < n → o j = 0) → mostN o n = t
  | 0, h, _ => absurd h (Nat.not_lt_zero t)
  | n + 1, h, hl => by
    unfold mostN
    rcases Nat.lt_or_ge t n with q | q
    · rw [if_pos (hl n q (by omega))]
      exact mostN_at ht n q (fun j h1 h2 => hl j h1 (by omega))
    · rw [← show t = n by omega, if_neg ht]
set_option maxRecDepth 20000 in
theorem l_K_allOdds_4 {G : zG} (C : zC G b_K_allOdds "OldBeams$Looks" (some .long) 4 0 0) (hS : G.1 = sX) (M : zM) (o9 : Nat → Nat) (ho : ∀ t, t < 11 → M.2 43 t = lN (o9 t)) (hQ : G.2.2.1 = zPl (fun r M2 => r = lN (sN o9 11) ∧ M = M2)) : ∀ (n : Nat) (j : Nat), (j ≤ 11) → (11 - j < n) → VJ G M 4 [some (.ref (zad G 2)), some (.long (lN (sN o9 j))), none, some (.int (iI (j : Int)))] [] := by
  intro n
  induction n with
  | zero =>
    intro j hj hn
    exact absurd hn (by omega)
  | succ n ih =>
    intro j hj hn
    refine r_ild3 C (pc := 4) d_K_allOdds_4 ?_
    refine r_bipush C (pc := 5) (n := 11) rfl d_K_allOdds_5 ?_
    refine r_icmp_ge C (pc := 7) (tgt := 25) (by omega) (by omega) d_K_allOdds_7 (by decide) (fun c7 => ?_) (fun c7 => ?_)
    · refine r_lld1 C (pc := 25) d_K_allOdds_25 ?_
      exact r_lret C (pc := 26) hQ (⟨by rw [show j = 11 by omega], rfl⟩) d_K_allOdds_26
    · refine r_lld1 C (pc := 10) d_K_allOdds_10 ?_
      refine r_ald0 C (pc := 11) d_K_allOdds_11 ?_
      refine gX_K_known C (pc := 12) hS k_166 d_K_allOdds_12 ?_
      refine r_ild3 C (pc := 15) d_K_allOdds_15 ?_
      refine X_laldN C (pc := 16) hS (j) (by omega) rfl (by decide) (by omega) (by decide) d_K_allOdds_16 ?_
      rw [ho j (by omega)]
      refine r_ladd C (pc := 17) d_K_allOdds_17 ?_
      rw [lN_add]
      refine r_lst1 C (pc := 18) rfl d_K_allOdds_18 ?_
      refine r_iinc3 C (pc := 19) rfl d_K_allOdds_19 ?_
      refine r_goto C (pc := 22) (tgt := 4) d_K_allOdds_22 (by decide) ?_
      exact ih (j + 1) (by omega) (by omega)
set_option maxRecDepth 20000 in
theorem c_K_allOdds (l : Launch) (E : zE) (M : zM) (o9 : Nat → Nat) (ho : ∀ t, t < 11 → M.2 43 t = lN (o9 t)) : zK l sX E y_K_allOdds b_K_allOdds 4 (some .long) 0 0 [.ref (E.2.2 2)] M (zPl (fun r M2 => r = lN (sN o9 11) ∧ M = M2)) := by
  refine zK.of "OldBeams$Looks" rfl (by decide) (Nat.le_of_ble_eq_true rfl) ?_
  intro G hS hE hQ hL C
  subst hE
  subst hL
  show VJ G M 0 [some (.ref (G.2.1.2.2 2)), none, none, none] []
  refine r_lconst C (pc := 0) (v := 0) rfl d_K_allOdds_0 ?_
  refine r_lst1 C (pc := 1) rfl d_K_allOdds_1 ?_
  refine r_iconst C (pc := 2) d_K_allOdds_2 ?_
  refine r_ist3 C (pc := 3) rfl d_K_allOdds_3 ?_
  exact l_K_allOdds_4 C hS M o9 ho hQ 12 0 (by omega) (by omega)
theorem ksE {S : zS} {b : Nat} {y z : Int} {c f : Nat} (hz : z = 0 ∨ z = 1) (hp : ∃ t, t < 11 ∧ OD S b y t ≠ 0) (hc : c = 0) (hf : (z = 0 ∧ c ≤ f ∧ f < 11 ∧ OD S b y f ≠ 0 ∧ ∀ j, c ≤ j → j < f → OD S b y j = 0) ∨ (f = 0 ∧ ∀ j, c ≤ j → j < 11 → OD S b y j = 0)) : (f : Int) = (KS S b y (decide (z = 1)) : Int) := by
  subst hc
  rcases hf with ⟨q0, q1, q2, q3, q4⟩ | ⟨q1, q2⟩
  · unfold KS
    rw [if_neg (by simp; omega), leastN_at q2 q3 (fun j hj => q4 j (by omega) hj)]
  · obtain ⟨t, h1, h2⟩ := hp
    exact absurd (q2 t (by omega) h1) h2
set_option maxRecDepth 20000 in
theorem l_K_knownShare_14 {G : zG} (C : zC G b_K_knownShare "OldBeams$Looks" (some .int) 6 3 81) (hS : G.1 = sX) (M : zM) (S : zS) (hR : RX S M) (hO : ok S) (b : Nat) (hb : b < S.1 0) (y : Int) (hy : 0 ≤ y ∧ y ≤ 500) (z : Int) (hz : z = 0 ∨ z = 1) (N : zM) (hN1 : N.1 = M.1) (hN2 : ∀ a, a ≠ 43 → a ≠ 44 → N.2 a = M.2 a) (hN3 : ∀ t, t < 11 → N.2 43 t = lN (OD S b y t)) (hD : ∀ t, t < 11 → OD S b y t < 2 ^ 63) (hp : ∃ t, t < 11 ∧ OD S b y t ≠ 0) (hQ : G.2.2.1 = zPi (fun r M2 => r = (KS S b y (decide (z = 1)) : Int) ∧ M2.1 = M.1 ∧ (∀ a, a ≠ 43 → a ≠ 44 → M2.2 a = M.2 a) ∧ ∀ t, t < 11 → M2.2 43 t = lN (OD S b y t))) : ∀ (n : Nat) (c f : Nat), (c ≤ 11) → ((z = 0 ∧ c ≤ f ∧ f < 11 ∧ OD S b y f ≠ 0 ∧ ∀ j, c ≤ j → j < f → OD S b y j = 0) ∨ (f = 0 ∧ ∀ j, c ≤ j → j < 11 → OD S b y j = 0)) → (c < n) → VJ G N 14 [some (.ref (zad G 2)), some (.int (iI (b : Int))), some (.int (iI y)), some (.int (iI z)), some (.int (iI (f : Int))), some (.int (iI ((c : Int) - 1)))] [] := by
  intro n
  induction n with
  | zero =>
    intro c f hc hf hn
    exact absurd hn (by omega)
  | succ n ih =>
    intro c f hc hf hn
    refine r_ild5 C (pc := 14) d_K_knownShare_14 ?_
    refine r_if_lt C (pc := 16) (tgt := 51) (by omega) d_K_knownShare_16 (by decide) (fun c16 => ?_) (fun c16 => ?_)
    · refine r_ild4 C (pc := 51) d_K_knownShare_51 ?_
      exact r_iret C (pc := 53) hQ (⟨ksE hz hp (by omega) hf, hN1, hN2, hN3⟩) d_K_knownShare_53
    · refine r_ald0 C (pc := 19) d_K_knownShare_19 ?_
      refine gX_K_known C (pc := 20) hS k_166 d_K_knownShare_20 ?_
      refine r_ild5 C (pc := 23) d_K_knownShare_23 ?_
      refine X_laldN C (pc := 25) hS ((c - 1)) (by omega) rfl (by decide) (by omega) (by decide) d_K_knownShare_25 ?_
      rw [hN3 (c - 1) (by omega)]
      have hdc := hD (c - 1) (by omega)
      refine r_lconst C (pc := 26) (v := 0) rfl d_K_knownShare_26 ?_
      refine r_lcmp_ne C (pc := 27) (tgt := 34) d_K_knownShare_27 d_K_knownShare_28 (by decide) (fun c27 => ?_) (fun c27 => ?_)
      · have hne : OD S b y (c - 1) ≠ 0 := fun q => c27 (by rw [q]; rfl)
        refine r_ild5 C (pc := 34) d_K_knownShare_34 ?_
        refine r_ist4 C (pc := 36) rfl d_K_knownShare_36 ?_
        refine r_ild3 C (pc := 38) d_K_knownShare_38 ?_
        refine r_if_eq C (pc := 39) (tgt := 45) (by omega) d_K_knownShare_39 (by decide) (fun c39 => ?_) (fun c39 => ?_)
        · refine r_iinc5 C (pc := 45) rfl d_K_knownShare_45 ?_
          refine r_goto C (pc := 48) (tgt := 14) d_K_knownShare_48 (by decide) ?_
          refine r_weak ?_ (ih (c - 1) (c - 1) (by omega) (Or.inl ⟨by omega, by omega, by omega, hne, fun j h1 h2 => by omega⟩) (by omega))
          exact ⟨Or.inr rfl, Or.inr rfl, Or.inr rfl, Or.inr rfl, Or.inr (by rw [show (c : Int) - 1 = ((c - 1 : Nat) : Int) by omega]), Or.inr (by rw [show (c : Int) - 1 + -1 = ((c - 1 : Nat) : Int) - 1 by omega]), trivial⟩
        · refine r_goto C (pc := 42) (tgt := 51) d_K_knownShare_42 (by decide) ?_
          refine r_ild4 C (pc := 51) d_K_knownShare_51 ?_
          exact r_iret C (pc := 53) hQ (⟨by rw [KS, if_pos (by simp; omega), mostN_at hne 11 (by omega) (fun j h1 h2 => by rcases hf with ⟨q0, _⟩ | ⟨_, q2⟩; (· omega); exact q2 j (by omega) h2)]; omega, hN1, hN2, hN3⟩) d_K_knownShare_53
      · have hze : OD S b y (c - 1) = 0 := (pk_lEQ hdc (by decide)).mp (c27.trans lN_0.symm)
        refine r_goto C (pc := 31) (tgt := 45) d_K_knownShare_31 (by decide) ?_
        refine r_iinc5 C (pc := 45) rfl d_K_knownShare_45 ?_
        refine r_goto C (pc := 48) (tgt := 14) d_K_knownShare_48 (by decide) ?_
        refine r_weak ?_ (ih (c - 1) f (by omega) (by
          rcases hf with ⟨q0, q1, q2, q3, q4⟩ | ⟨q1, q2⟩
          · exact Or.inl ⟨q0, by omega, q2, q3, fun j h1 h2 => by
              rcases Nat.lt_or_ge j c with w | w
              · rw [show j = c - 1 by omega]; exact hze
              · exact q4 j w h2⟩
          · exact Or.inr ⟨q1, fun j h1 h2 => by
              rcases Nat.lt_or_ge j c with w | w
              · rw [show j = c - 1 by omega]; exact hze
              · exact q2 j w h2⟩) (by omega))
        exact ⟨Or.inr rfl, Or.inr rfl, Or.inr rfl, Or.inr rfl, Or.inr rfl, Or.inr (by rw [show (c : Int) - 1 + -1 = ((c - 1 : Nat) : Int) - 1 by omega]), trivial⟩
set_option maxRecDepth 20000 in
theorem c_K_knownShare (l : Launch) (E : zE) (M : zM) (S : zS) (hR : RX S M) (hO : ok S) (b : Nat) (hb : b < S.1 0) (y : Int) (hy : 0 ≤ y ∧ y ≤ 500) (z : Int) (hz : z = 0 ∨ z = 1) : zK l sX E y_K_knownShare b_K_knownShare 6 (some .int) 3 81 [.ref (E.2.2 2), .int (iI (b : Int)), .int (iI y), .int (iI z)] M (zPi (fun r M2 => r = (KS S b y (decide (z = 1)) : Int) ∧ M2.1 = M.1 ∧ (∀ a, a ≠ 43 → a ≠ 44 → M2.2 a = M.2 a) ∧ ∀ t, t < 11 → M2.2 43 t = lN (OD S b y t))) := by
  refine zK.of "OldBeams$Looks" rfl (by decide) (Nat.le_of_ble_eq_true rfl) ?_
  intro G hS hE hQ hL C
  subst hE
  subst hL
  show VJ G M 0 [some (.ref (G.2.1.2.2 2)), some (.int (iI (b : Int))), some (.int (iI y)), some (.int (iI z)), none, none] []
  have h12 := hO.1
  refine r_ald0 C (pc := 0) d_K_knownShare_0 ?_
  refine r_ild1 C (pc := 1) d_K_knownShare_1 ?_
  refine r_ild2 C (pc := 2) d_K_knownShare_2 ?_
  refine call_K_reckonOdds C (pc := 3) hS (c_K_reckonOdds _ _ M S hR hO b hb y hy) k_482 (by decide) (Nat.le_of_ble_eq_true rfl) rfl d_K_knownShare_3 (kkI (fun r3 N3 h3 => ?_))
  obtain ⟨-, a1, a2, a3⟩ := h3
  refine r_pop C (pc := 6) rfl d_K_knownShare_6 ?_
  refine r_iconst C (pc := 7) d_K_knownShare_7 ?_
  refine r_ist4 C (pc := 8) rfl d_K_knownShare_8 ?_
  refine r_bipush C (pc := 10) (n := 10) rfl d_K_knownShare_10 ?_
  refine r_ist5 C (pc := 12) rfl d_K_knownShare_12 ?_
  exact l_K_knownShare_14 C hS M S hR hO b hb y hy z hz N3 a1 a2 a3 (fun t ht => by have := oO_33 hO (b := b) (by omega) y (Nat.le_refl _) ht; unfold OD; omega) (oO_pos hO (by omega) y _) hQ 12 11 0 (by omega) (Or.inr ⟨rfl, fun j h1 h2 => by omega⟩) (by omega)
set_option maxRecDepth 20000 in
theorem l_K_countAt_4 {G : zG} (C : zC G b_K_countAt "OldBeams$Looks" (some .int) 4 0 0) (hS : G.1 = sX) (M : zM) (S : zS) (hR : RX S M) (hO : ok S) (b : Nat) (hb : b < 12) (hQ : G.2.2.1 = zPi (fun r M2 => r = (lkN S b (S.1 2) : Int) ∧ M = M2)) : ∀ (n : Nat) (l : Nat), (l ≤ S.1 2) → (S.1 2 - l < n) → VJ G M 4 [some (.ref (zad G 2)), some (.int (iI (b : Int))), some (.int (iI (lkN S b l : Int))), some (.int (iI (l : Int)))] [] := by
  intro n
  induction n with
  | zero =>
    intro l hl hn
    exact absurd hn (by omega)
  | succ n ih =>
    intro l hl hn
    have h12 := hO.1
    have hcnt : M.1 2 6 = (S.1 2 : Int) := hR.1.2.2.1
    have e := lkN_succ S b l
    refine r_ild3 C (pc := 4) d_K_countAt_4 ?_
    refine r_ald0 C (pc := 5) d_K_countAt_5 ?_
    refine gX_K_lookCount C (pc := 6) hS k_164 d_K_countAt_6 ?_
    rw [hcnt]
    refine r_icmp_ge C (pc := 9) (tgt := 31) (by omega) (by omega) d_K_countAt_9 (by decide) (fun c9 => ?_) (fun c9 => ?_)
    · refine r_ild2 C (pc := 31) d_K_countAt_31 ?_
      exact r_iret C (pc := 32) hQ (⟨by rw [show l = S.1 2 by omega], rfl⟩) d_K_countAt_32
    · have hlr := hR.2.2.2.2.2.2.2.2.2.2.1 l (by omega)
      have hlo := hO.2.2.2.2.2.2.2.2.2.2.1 l (by omega)
      refine r_ald0 C (pc := 12) d_K_countAt_12 ?_
      refine gX_K_lookBeam C (pc := 13) hS k_160 d_K_countAt_13 ?_
      refine r_ild3 C (pc := 16) d_K_countAt_16 ?_
      refine X_ialdN C (pc := 17) hS (l) (by omega) rfl (by decide) (by omega) (by decide) d_K_countAt_17 ?_
      rw [hlr.1]
      refine r_ild1 C (pc := 18) d_K_countAt_18 ?_
      refine r_icmp_ne C (pc := 19) (tgt := 25) (by omega) (by omega) d_K_countAt_19 (by decide) (fun c19 => ?_) (fun c19 => ?_)
      · refine r_iinc3 C (pc := 25) rfl d_K_countAt_25 ?_
        refine r_goto C (pc := 28) (tgt := 4) d_K_countAt_28 (by decide) ?_
        first | rw [if_neg c19] at e | rw [if_pos c19] at e
        refine r_weak ?_ (ih (l + 1) (by omega) (by omega))
        exact ⟨Or.inr rfl, Or.inr rfl, Or.inr (by rw [e]; rfl), Or.inr rfl, trivial⟩
      · refine r_iinc2 C (pc := 22) rfl d_K_countAt_22 ?_
        refine r_iinc3 C (pc := 25) rfl d_K_countAt_25 ?_
        refine r_goto C (pc := 28) (tgt := 4) d_K_countAt_28 (by decide) ?_
        first | rw [if_neg c19] at e | rw [if_pos c19] at e
        refine r_weak ?_ (ih (l + 1) (by omega) (by omega))
        exact ⟨Or.inr rfl, Or.inr rfl, Or.inr (by rw [e]; rfl), Or.inr rfl, trivial⟩
set_option maxRecDepth 20000 in
theorem c_K_countAt (l : Launch) (E : zE) (M : zM) (S : zS) (hR : RX S M) (hO : ok S) (b : Nat) (hb : b < 12) : zK l sX E y_K_countAt b_K_countAt 4 (some .int) 0 0 [.ref (E.2.2 2), .int (iI (b : Int))] M (zPi (fun r M2 => r = (lkN S b (S.1 2) : Int) ∧ M = M2)) := by
  refine zK.of "OldBeams$Looks" rfl (by decide) (Nat.le_of_ble_eq_true rfl) ?_
  intro G hS hE hQ hL C
  subst hE
  subst hL
  show VJ G M 0 [some (.ref (G.2.1.2.2 2)), some (.int (iI (b : Int))), none, none] []
  refine r_iconst C (pc := 0) d_K_countAt_0 ?_
  refine r_ist2 C (pc := 1) rfl d_K_countAt_1 ?_
  refine r_iconst C (pc := 2) d_K_countAt_2 ?_
  refine r_ist3 C (pc := 3) rfl d_K_countAt_3 ?_
  exact l_K_countAt_4 C hS M S hR hO b hb hQ (S.1 2 + 1) 0 (by omega) (by omega)
set_option maxRecDepth 20000 in
theorem l_K_isUsed_2 {G : zG} (C : zC G b_K_isUsed "OldBeams$Looks" (some .boolean) 3 0 0) (hS : G.1 = sX) (M : zM) (S : zS) (hR : RX S M) (hO : ok S) (k : Nat) (hk : k < 4) (hQ : G.2.2.1 = zPi (fun r M2 => r = zb (anN (fun l => decide (S.2 10 l 1 = (k : Int))) (S.1 2) = true) ∧ M = M2)) : ∀ (n : Nat) (l : Nat), (l ≤ S.1 2) → (anN (fun l => decide (S.2 10 l 1 = (k : Int))) l = false) → (S.1 2 - l < n) → VJ G M 2 [some (.ref (zad G 2)), some (.int (iI (k : Int))), some (.int (iI (l : Int)))] [] := by
  intro n
  induction n with
  | zero =>
    intro l hl ha hn
    exact absurd hn (by omega)
  | succ n ih =>
    intro l hl ha hn
    have h12 := hO.1
    have hcnt : M.1 2 6 = (S.1 2 : Int) := hR.1.2.2.1
    refine r_ild2 C (pc := 2) d_K_isUsed_2 ?_
    refine r_ald0 C (pc := 3) d_K_isUsed_3 ?_
    refine gX_K_lookCount C (pc := 4) hS k_164 d_K_isUsed_4 ?_
    rw [hcnt]
    refine r_icmp_ge C (pc := 7) (tgt := 28) (by omega) (by omega) d_K_isUsed_7 (by decide) (fun c7 => ?_) (fun c7 => ?_)
    · refine r_iconst C (pc := 28) d_K_isUsed_28 ?_
      exact r_zret C (pc := 29) hQ (by first | exact Or.inl rfl | exact Or.inr rfl | exact zb_01 _ | assumption) (⟨zb_of0 (by rw [← show l = S.1 2 by omega, ha]; decide), rfl⟩) d_K_isUsed_29
    · have hlr := hR.2.2.2.2.2.2.2.2.2.2.1 l (by omega)
      have hlo := hO.2.2.2.2.2.2.2.2.2.2.1 l (by omega)
      refine r_ald0 C (pc := 10) d_K_isUsed_10 ?_
      refine gX_K_lookTool C (pc := 11) hS k_161 d_K_isUsed_11 ?_
      refine r_ild2 C (pc := 14) d_K_isUsed_14 ?_
      refine X_ialdN C (pc := 15) hS (l) (by omega) rfl (by decide) (by omega) (by decide) d_K_isUsed_15 ?_
      rw [hlr.2.1]
      refine r_ild1 C (pc := 16) d_K_isUsed_16 ?_
      refine r_icmp_ne C (pc := 17) (tgt := 22) (by omega) (by omega) d_K_isUsed_17 (by decide) (fun c17 => ?_) (fun c17 => ?_)
      · refine r_iinc2 C (pc := 22) rfl d_K_isUsed_22 ?_
        refine r_goto C (pc := 25) (tgt := 2) d_K_isUsed_25 (by decide) ?_
        exact ih (l + 1) (by omega) (by rw [anN_succ, ha]; simpa using c17) (by omega)
      · refine r_iconst C (pc := 20) d_K_isUsed_20 ?_
        exact r_zret C (pc := 21) hQ (by first | exact Or.inl rfl | exact Or.inr rfl | exact zb_01 _ | assumption) (⟨zb_of1 (anN_at (k := l) (by omega) (by simpa using c17)), rfl⟩) d_K_isUsed_21
set_option maxRecDepth 20000 in
theorem c_K_isUsed (l : Launch) (E : zE) (M : zM) (S : zS) (hR : RX S M) (hO : ok S) (k : Nat) (hk : k < 4) : zK l sX E y_K_isUsed b_K_isUsed 3 (some .boolean) 0 0 [.ref (E.2.2 2), .int (iI (k : Int))] M (zPi (fun r M2 => r = zb (anN (fun l => decide (S.2 10 l 1 = (k : Int))) (S.1 2) = true) ∧ M = M2)) := by
  refine zK.of "OldBeams$Looks" rfl (by decide) (Nat.le_of_ble_eq_true rfl) ?_
  intro G hS hE hQ hL C
  subst hE
  subst hL
  show VJ G M 0 [some (.ref (G.2.1.2.2 2)), some (.int (iI (k : Int))), none] []
  refine r_iconst C (pc := 0) d_K_isUsed_0 ?_
  refine r_ist2 C (pc := 1) rfl d_K_isUsed_1 ?_
  exact l_K_isUsed_2 C hS M S hR hO k hk hQ (S.1 2 + 1) 0 (by omega) rfl (by omega)
set_option maxRecDepth 20000 in
theorem c_K_lastYear (l : Launch) (E : zE) (M : zM) (S : zS) (hR : RX S M) (hO : ok S) : zK l sX E y_K_lastYear b_K_lastYear 1 (some .int) 0 0 [.ref (E.2.2 2)] M (zPi (fun r M2 => r = (if 0 < S.1 2 then S.2 10 (S.1 2 - 1) 3 else 0) ∧ M = M2)) := by
  refine zK.of "OldBeams$Looks" rfl (by decide) (Nat.le_of_ble_eq_true rfl) ?_
  intro G hS hE hQ hL C
  subst hE
  subst hL
  show VJ G M 0 [some (.ref (G.2.1.2.2 2))] []
  have h12 := hO.1
  have hcnt : M.1 2 6 = (S.1 2 : Int) := hR.1.2.2.1
  refine r_ald0 C (pc := 0) d_K_lastYear_0 ?_
  refine gX_K_lookCount C (pc := 1) hS k_164 d_K_lastYear_1 ?_
  rw [hcnt]
  refine r_if_le C (pc := 4) (tgt := 21) (by omega) d_K_lastYear_4 (by decide) (fun c4 => ?_) (fun c4 => ?_)
  · refine r_iconst C (pc := 21) d_K_lastYear_21 ?_
    exact r_iret C (pc := 22) hQ (⟨by first | rw [if_neg (by omega)] | rw [if_pos (by omega)], rfl⟩) d_K_lastYear_22
  · refine r_ald0 C (pc := 7) d_K_lastYear_7 ?_
    refine gX_K_lookYear C (pc := 8) hS k_163 d_K_lastYear_8 ?_
    refine r_ald0 C (pc := 11) d_K_lastYear_11 ?_
    refine gX_K_lookCount C (pc := 12) hS k_164 d_K_lastYear_12 ?_
    rw [hcnt]
    refine r_iconst C (pc := 15) d_K_lastYear_15 ?_
    refine r_isub C (pc := 16) d_K_lastYear_16 ?_
    refine X_ialdN C (pc := 17) hS ((S.1 2 - 1)) (by omega) rfl (by decide) (by omega) (by decide) d_K_lastYear_17 ?_
    rw [(hR.2.2.2.2.2.2.2.2.2.2.1 (S.1 2 - 1) (by omega)).2.2.2]
    refine r_goto C (pc := 18) (tgt := 22) d_K_lastYear_18 (by decide) ?_
    exact r_iret C (pc := 22) hQ (⟨by first | rw [if_neg (by omega)] | rw [if_pos (by omega)], rfl⟩) d_K_lastYear_22
set_option maxRecDepth 20000 in
theorem c_K_addLook (l : Launch) (E : zE) (M : zM) (w : Nat) (hw : w < 60) (hc : M.1 2 6 = (w : Int)) (b k oc y : Int) : zK l sX E y_K_addLook b_K_addLook 6 (some .int) 0 0 [.ref (E.2.2 2), .int (iI b), .int (iI k), .int (iI oc), .int (iI y)] M (zPi (fun r M2 => r = (w : Int) ∧ zI (zI (zI (zI (zI M 39 w b) 40 w k) 41 w oc) 42 w y) 2 6 ((w : Int) + 1) = M2)) := by
  refine zK.of "OldBeams$Looks" rfl (by decide) (Nat.le_of_ble_eq_true rfl) ?_
  intro G hS hE hQ hL C
  subst hE
  subst hL
  show VJ G M 0 [some (.ref (G.2.1.2.2 2)), some (.int (iI b)), some (.int (iI k)), some (.int (iI oc)), some (.int (iI y)), none] []
  refine r_ald0 C (pc := 0) d_K_addLook_0 ?_
  refine gX_K_lookCount C (pc := 1) hS k_164 d_K_addLook_1 ?_
  rw [hc]
  refine r_ist5 C (pc := 4) rfl d_K_addLook_4 ?_
  refine r_ald0 C (pc := 6) d_K_addLook_6 ?_
  refine gX_K_lookBeam C (pc := 7) hS k_160 d_K_addLook_7 ?_
  refine r_ild5 C (pc := 10) d_K_addLook_10 ?_
  refine r_ild1 C (pc := 12) d_K_addLook_12 ?_
  refine X_iastN C (pc := 13) hS (w) (by omega) rfl (by decide) (by omega) (by decide)  d_K_addLook_13 ?_
  refine r_ald0 C (pc := 14) d_K_addLook_14 ?_
  refine gX_K_lookTool C (pc := 15) hS k_161 d_K_addLook_15 ?_
  refine r_ild5 C (pc := 18) d_K_addLook_18 ?_
  refine r_ild2 C (pc := 20) d_K_addLook_20 ?_
  refine X_iastN C (pc := 21) hS (w) (by omega) rfl (by decide) (by omega) (by decide)  d_K_addLook_21 ?_
  refine r_ald0 C (pc := 22) d_K_addLook_22 ?_
  refine gX_K_lookOutcome C (pc := 23) hS k_162 d_K_addLook_23 ?_
  refine r_ild5 C (pc := 26) d_K_addLook_26 ?_
  refine r_ild3 C (pc := 28) d_K_addLook_28 ?_
  refine X_iastN C (pc := 29) hS (w) (by omega) rfl (by decide) (by omega) (by decide)  d_K_addLook_29 ?_
  refine r_ald0 C (pc := 30) d_K_addLook_30 ?_
  refine gX_K_lookYear C (pc := 31) hS k_163 d_K_addLook_31 ?_
  refine r_ild5 C (pc := 34) d_K_addLook_34 ?_
  refine r_ild4 C (pc := 36) d_K_addLook_36 ?_
  refine X_iastN C (pc := 38) hS (w) (by omega) rfl (by decide) (by omega) (by decide)  d_K_addLook_38 ?_
  refine r_ald0 C (pc := 39) d_K_addLook_39 ?_
  refine r_ild5 C (pc := 40) d_K_addLook_40 ?_
  refine r_iconst C (pc := 42) d_K_addLook_42 ?_
  refine r_iadd C (pc := 43) d_K_addLook_43 ?_
  refine pX_K_lookCount C (pc := 44) hS k_164 d_K_addLook_44 ?_
  refine r_ild5 C (pc := 47) d_K_addLook_47 ?_
  exact r_iret C (pc := 49) hQ (⟨rfl, rfl⟩) d_K_addLook_49
set_option maxRecDepth 20000 in
theorem l_K_anyWeightLeft_3 {G : zG} (C : zC G b_K_anyWeightLeft "OldBeams$Looks" (some .boolean) 6 0 0) (hS : G.1 = sX) (M : zM) (S : zS) (hR : RX S M) (hO : ok S) (b : Nat) (hb : b < 12) (sh v : Int) (hsh : 0 ≤ sh ∧ sh ≤ 10) (hv : 0 ≤ v ∧ v ≤ 99) (hQ : G.2.2.1 = zPi (fun r M2 => r = zb (anN (fun t => decide (0 < (if (t : Int) = sh then v else S.2 8 b t))) 11 = true) ∧ M = M2)) : ∀ (n : Nat) (t : Nat), (t ≤ 11) → (anN (fun t => decide (0 < (if (t : Int) = sh then v else S.2 8 b t))) t = false) → (11 - t < n) → VJ G M 3 [some (.ref (zad G 2)), some (.int (iI (b : Int))), some (.int (iI sh)), some (.int (iI v)), some (.int (iI (t : Int))), none] [] := by
  intro n
  induction n with
  | zero =>
    intro t ht ha hn
    exact absurd hn (by omega)
  | succ n ih =>
    intro t ht ha hn
    refine r_ild4 C (pc := 3) d_K_anyWeightLeft_3 ?_
    refine r_bipush C (pc := 5) (n := 11) rfl d_K_anyWeightLeft_5 ?_
    refine r_icmp_ge C (pc := 7) (tgt := 44) (by omega) (by omega) d_K_anyWeightLeft_7 (by decide) (fun c7 => ?_) (fun c7 => ?_)
    · refine r_iconst C (pc := 44) d_K_anyWeightLeft_44 ?_
      exact r_zret C (pc := 45) hQ (by first | exact Or.inl rfl | exact Or.inr rfl | exact zb_01 _ | assumption) (⟨zb_of0 (by rw [← show t = 11 by omega, ha]; decide), rfl⟩) d_K_anyWeightLeft_45
    · have hw := hR.2.2.2.2.2.2.2.2.1 b (by omega) t (by omega)
      have hw2 := (hO.2.2.2.2.2.2.2.2.1 b (by omega)).1 t (by omega)
      refine r_ild4 C (pc := 10) d_K_anyWeightLeft_10 ?_
      refine r_ild2 C (pc := 12) d_K_anyWeightLeft_12 ?_
      refine r_icmp_ne C (pc := 13) (tgt := 20) (by omega) (by omega) d_K_anyWeightLeft_13 (by decide) (fun c13 => ?_) (fun c13 => ?_)
      · refine r_ald0 C (pc := 20) d_K_anyWeightLeft_20 ?_
        refine gX_K_weights C (pc := 21) hS k_156 d_K_anyWeightLeft_21 ?_
        refine r_ild1 C (pc := 24) d_K_anyWeightLeft_24 ?_
        refine X_weightsN C (pc := 25) hS (b) (by omega) (by omega) d_K_anyWeightLeft_25 ?_
        refine r_ild4 C (pc := 26) d_K_anyWeightLeft_26 ?_
        refine X_ialdN C (pc := 28) hS (t) (by omega) (shWr (by omega)) (by omega) (by omega) (by decide) d_K_anyWeightLeft_28 ?_
        rw [hw]
        refine r_ist5 C (pc := 29) rfl d_K_anyWeightLeft_29 ?_
        refine r_ild5 C (pc := 31) d_K_anyWeightLeft_31 ?_
        refine r_if_le C (pc := 33) (tgt := 38) (by omega) d_K_anyWeightLeft_33 (by decide) (fun c33 => ?_) (fun c33 => ?_)
        · refine r_iinc4 C (pc := 38) rfl d_K_anyWeightLeft_38 ?_
          refine r_goto C (pc := 41) (tgt := 3) d_K_anyWeightLeft_41 (by decide) ?_
          refine r_weak ?_ (ih (t + 1) (by omega) (by rw [anN_succ, ha]; simp only [Bool.false_or, decide_eq_false_iff_not]; first | (rw [if_pos c13]; omega) | (rw [if_neg c13]; omega)) (by omega))
          exact ⟨Or.inr rfl, Or.inr rfl, Or.inr rfl, Or.inr rfl, Or.inr rfl, Or.inl rfl, trivial⟩
        · refine r_iconst C (pc := 36) d_K_anyWeightLeft_36 ?_
          exact r_zret C (pc := 37) hQ (by first | exact Or.inl rfl | exact Or.inr rfl | exact zb_01 _ | assumption) (⟨zb_of1 (anN_at (k := t) (by omega) (by simp only [decide_eq_true_eq]; first | (rw [if_pos c13]; omega) | (rw [if_neg c13]; omega))), rfl⟩) d_K_anyWeightLeft_37
      · refine r_ild3 C (pc := 16) d_K_anyWeightLeft_16 ?_
        refine r_goto C (pc := 17) (tgt := 29) d_K_anyWeightLeft_17 (by decide) ?_
        refine r_ist5 C (pc := 29) rfl d_K_anyWeightLeft_29 ?_
        refine r_ild5 C (pc := 31) d_K_anyWeightLeft_31 ?_
        refine r_if_le C (pc := 33) (tgt := 38) (by omega) d_K_anyWeightLeft_33 (by decide) (fun c33 => ?_) (fun c33 => ?_)
        · refine r_iinc4 C (pc := 38) rfl d_K_anyWeightLeft_38 ?_
          refine r_goto C (pc := 41) (tgt := 3) d_K_anyWeightLeft_41 (by decide) ?_
          refine r_weak ?_ (ih (t + 1) (by omega) (by rw [anN_succ, ha]; simp only [Bool.false_or, decide_eq_false_iff_not]; first | (rw [if_pos c13]; omega) | (rw [if_neg c13]; omega)) (by omega))
          exact ⟨Or.inr rfl, Or.inr rfl, Or.inr rfl, Or.inr rfl, Or.inr rfl, Or.inl rfl, trivial⟩
        · refine r_iconst C (pc := 36) d_K_anyWeightLeft_36 ?_
          exact r_zret C (pc := 37) hQ (by first | exact Or.inl rfl | exact Or.inr rfl | exact zb_01 _ | assumption) (⟨zb_of1 (anN_at (k := t) (by omega) (by simp only [decide_eq_true_eq]; first | (rw [if_pos c13]; omega) | (rw [if_neg c13]; omega))), rfl⟩) d_K_anyWeightLeft_37
set_option maxRecDepth 20000 in
theorem c_K_anyWeightLeft (l : Launch) (E : zE) (M : zM) (S : zS) (hR : RX S M) (hO : ok S) (b : Nat) (hb : b < 12) (sh v : Int) (hsh : 0 ≤ sh ∧ sh ≤ 10) (hv : 0 ≤ v ∧ v ≤ 99) : zK l sX E y_K_anyWeightLeft b_K_anyWeightLeft 6 (some .boolean) 0 0 [.ref (E.2.2 2), .int (iI (b : Int)), .int (iI sh), .int (iI v)] M (zPi (fun r M2 => r = zb (anN (fun t => decide (0 < (if (t : Int) = sh then v else S.2 8 b t))) 11 = true) ∧ M = M2)) := by
  refine zK.of "OldBeams$Looks" rfl (by decide) (Nat.le_of_ble_eq_true rfl) ?_
  intro G hS hE hQ hL C
  subst hE
  subst hL
  show VJ G M 0 [some (.ref (G.2.1.2.2 2)), some (.int (iI (b : Int))), some (.int (iI sh)), some (.int (iI v)), none, none] []
  refine r_iconst C (pc := 0) d_K_anyWeightLeft_0 ?_
  refine r_ist4 C (pc := 1) rfl d_K_anyWeightLeft_1 ?_
  exact l_K_anyWeightLeft_3 C hS M S hR hO b hb sh v hsh hv hQ 12 0 (by omega) rfl (by omega)
