def hJ (S : zS) (ps dw : Nat → Bool) (N : zM) (b : Nat) : Prop := N.2 (45 + 7 * b + 6) 0 = P0 S ps dw b ∧ N.2 (45 + 7 * b + 6) 1 = P1 S ps dw b ∧ N.2 (45 + 7 * b) 11 = (GR S ps dw b).1 ∧ N.1 (45 + 7 * b) 12 = ((GR S ps dw b).2 : Int)
def hoB (S : zS) (ps dw : Nat → Bool) (b : Nat) (t : Int) : Bool := (!(decide (P0 S ps dw b < 0) || decide (P1 S ps dw b < 0))) && decide ((GR S ps dw b).1 ≤ lI (wh S b * t / 10))
theorem hJ_ho {S : zS} {ps dw : Nat → Bool} {N : zM} {b : Nat} (h : hJ S ps dw N b) (t : Int) : (¬ (N.2 (45 + 7 * b + 6) 0 < 0 ∨ N.2 (45 + 7 * b + 6) 1 < 0) ∧ N.2 (45 + 7 * b) 11 ≤ lI (wh S b * t / 10)) ↔ hoB S ps dw b t = true := by
  rw [h.1, h.2.1, h.2.2.1]
  unfold hoB
  simp
theorem hJ_cong {S : zS} {ps qs dw ew : Nat → Bool} {N : zM} {b : Nat} (hp : ∀ j, j < S.1 3 → ps j = qs j) (hd : ∀ j, j < S.1 0 → dw j = ew j) (h : hJ S ps dw N b) : hJ S qs ew N b := by
  have e : FB S ps dw b = FB S qs ew b := FF_cong S hp hd _ (by omega)
  unfold hJ P0 P1 GR at h ⊢
  unfold P0 P1 at h ⊢
  rw [e] at h
  exact h
theorem hoB_cong {S : zS} {ps qs dw ew : Nat → Bool} {b : Nat} {t : Int} (hp : ∀ j, j < S.1 3 → ps j = qs j) (hd : ∀ j, j < S.1 0 → dw j = ew j) : hoB S ps dw b t = hoB S qs ew b t := by
  have e : FB S ps dw b = FB S qs ew b := FF_cong S hp hd _ (by omega)
  unfold hoB P0 P1 GR
  unfold P0 P1
  rw [e]
/-- the first that is not down and does not hold; as many as there are beams: none -/
def FN (S : zS) (ps dw : Nat → Bool) (sh : Nat → Int) : Nat := fsN (fun b => !dw b && !hoB S ps dw b (sh b)) (S.1 0)
theorem fsN_cong {p q : Nat → Bool} : ∀ n : Nat, (∀ j, j < n → p j = q j) → fsN p n = fsN q n
  | 0, _ => rfl
  | n + 1, h => by
    unfold fsN
    rw [fsN_cong n (fun j hj => h j (by omega)), h n (by omega)]
theorem fsN_no (p : Nat → Bool) : ∀ n k : Nat, k < fsN p n → p k = false
  | 0, k, h => absurd h (Nat.not_lt_zero k)
  | n + 1, k, h => by
    have ih := fsN_no p n
    have hl := fsN_le p n
    unfold fsN at h
    split at h
    · exact ih k h
    · split at h
      · exact ih k (by omega)
      · rename_i h1 h2
        rcases Nat.lt_or_ge k n with q | q
        · exact ih k (by omega)
        · rw [show k = n by omega]
          exact Bool.eq_false_iff.mpr h2
theorem fsN_yes (p : Nat → Bool) : ∀ n : Nat, fsN p n < n → p (fsN p n) = true
  | 0, h => absurd h (Nat.not_lt_zero _)
  | n + 1, h => by
    have ih := fsN_yes p n
    have hl := fsN_le p n
    unfold fsN at h ⊢
    split at h
    · rename_i h1
      rw [if_pos h1]
      exact ih h1
    · rename_i h1
      rw [if_neg h1]
      split at h
      · rename_i h2
        rw [if_pos h2]
        exact h2
      · omega
theorem FN_cong {S : zS} {ps qs dw ew : Nat → Bool} {sh : Nat → Int} (hp : ∀ j, j < S.1 3 → ps j = qs j) (hd : ∀ j, j < S.1 0 → dw j = ew j) : FN S ps dw sh = FN S qs ew sh := fsN_cong _ (fun j hj => by
  show (!dw j && !hoB S ps dw j (sh j)) = (!ew j && !hoB S qs ew j (sh j))
  rw [hd j hj, hoB_cong hp hd])
def alN (p : Nat → Bool) : Nat → Bool
  | 0 => true
  | n + 1 => alN p n && p n
theorem alN_iff (p : Nat → Bool) : ∀ n : Nat, alN p n = true ↔ ∀ k, k < n → p k = true
  | 0 => ⟨fun _ k h => absurd h (Nat.not_lt_zero k), fun _ => rfl⟩
  | n + 1 => by
    unfold alN
    rw [Bool.and_eq_true, alN_iff p n]
    constructor
    · rintro ⟨h1, h2⟩ k hk
      rcases Nat.lt_or_ge k n with q | q
      · exact h1 k q
      · rw [show k = n by omega]; exact h2
    · exact fun h => ⟨fun k hk => h k (by omega), h n (by omega)⟩
theorem alN_cong {p q : Nat → Bool} (n : Nat) (h : ∀ j, j < n → p j = q j) : alN p n = alN q n := by
  apply Bool.eq_iff_iff.mpr
  rw [alN_iff, alN_iff]
  exact ⟨fun g k hk => by rw [← h k hk]; exact g k hk, fun g k hk => by rw [h k hk]; exact g k hk⟩
theorem bX_sf {M N : zM} (h1 : N.1 = M.1) (h2 : ∀ a, ¬ (45 ≤ a ∧ (a - 45) % 7 = 5) → N.2 a = M.2 a) : bX M N := ⟨fun a i _ => by rw [h1], fun a h => h2 a (by omega)⟩
set_option maxRecDepth 20000 in
theorem l_F_reckonAll_12 {G : zG} (C : zC G b_F_reckonAll "OldBeams$Frame" none 4 3 82) (hS : G.1 = sX) (M : zM) (S : zS) (hR : RX S M) (hO : ok S) (d q : Nat) (hd : d < 4096) (hq : q < 256) (hQ : G.2.2.1 = zPv (fun M2 => bX M M2 ∧ hF S (FF S (fun p => q.testBit (7 - p)) (fun i => d.testBit i) (S.1 0)) M2 ∧ ∀ b, b < S.1 0 → d.testBit b = false → hJ S (fun p => q.testBit (7 - p)) (fun i => d.testBit i) M2 b)) : ∀ (n : Nat) (c : Nat) (N : zM), (c ≤ S.1 0) → (bX M N) → (hF S (FF S (fun p => q.testBit (7 - p)) (fun i => d.testBit i) (S.1 0 - c)) N) → (∀ b, c ≤ b → b < S.1 0 → d.testBit b = false → hJ S (fun p => q.testBit (7 - p)) (fun i => d.testBit i) N b) → (c < n) → VJ G N 12 [some (.ref (zad G 1)), some (.int (iI (d : Int))), some (.int (iI (q : Int))), some (.int (iI ((c : Int) - 1)))] [] := by
  intro n
  induction n with
  | zero =>
    intro c N hc hx hf hj hn
    exact absurd hn (by omega)
  | succ n ih =>
    intro c N hc hx hf hj hn
    have h12 := hO.n
    have hRN := RXb hR hx
    have es := FF_succ S (fun p => q.testBit (7 - p)) (fun i => d.testBit i) (S.1 0 - c)
    refine r_ild3 C (pc := 12) d_F_reckonAll_12 ?_
    refine r_if_lt C (pc := 13) (tgt := 40) (by omega) d_F_reckonAll_13 (by decide) (fun c13 => ?_) (fun c13 => ?_)
    · exact r_vret C (pc := 40) hQ (⟨hx, by rw [show S.1 0 - c = S.1 0 by omega] at hf; exact hf, fun b hb => hj b (by omega) hb⟩) d_F_reckonAll_40
    · rw [show S.1 0 - c + 1 = S.1 0 - (c - 1) by omega, show S.1 0 - 1 - (S.1 0 - c) = c - 1 by omega] at es
      refine r_ild1 C (pc := 16) d_F_reckonAll_16 ?_
      refine r_ild3 C (pc := 17) d_F_reckonAll_17 ?_
      refine r_topZ (b := ((c - 1 : Nat) : Int)) (by omega) ?_
      refine calln_O_isIn C (pc := 18) hS rfl rfl (c_O_isIn _ _ _ _ _ (by omega) (by omega)) (by decide) (Nat.le_of_ble_eq_true rfl) rfl d_F_reckonAll_18 (kkI (fun r18 N18 h18 => ?_))
      obtain ⟨rfl, rfl⟩ := h18
      refine r_ifneB C (pc := 21) (tgt := 34) d_F_reckonAll_21 (by decide) (fun c21 => ?_) (fun c21 => ?_)
      · rw [if_pos c21] at es
        refine r_iinc3 C (pc := 34) rfl d_F_reckonAll_34 ?_
        refine r_goto C (pc := 37) (tgt := 12) d_F_reckonAll_37 (by decide) ?_
        refine r_weak ?_ (ih (c - 1) _ (by omega) hx (by rw [es]; exact hf) (fun b h1 h2 h3 => by
          by_cases e : b = c - 1
          · subst e
            rw [c21] at h3
            cases h3
          · exact hj b (by omega) h2 h3) (by omega))
        exact ⟨Or.inr rfl, Or.inr rfl, Or.inr rfl, Or.inr (by rw [show (c : Int) - 1 + -1 = ((c - 1 : Nat) : Int) - 1 by omega]), trivial⟩
      · rw [if_neg c21] at es
        refine r_ald0 C (pc := 24) d_F_reckonAll_24 ?_
        refine r_ald0 C (pc := 25) d_F_reckonAll_25 ?_
        refine gX_F_beams C (pc := 26) hS k_95 d_F_reckonAll_26 ?_
        refine r_ild3 C (pc := 29) d_F_reckonAll_29 ?_
        refine X_beamsN C (pc := 30) hS ((c - 1)) (by omega) (by omega) d_F_reckonAll_30 ?_
        refine call_F_reckonBeam C (pc := 31) hS (c_F_reckonBeam _ _ N S hRN hO (c - 1) (by omega) _ hf) k_362 (by decide) (Nat.le_of_ble_eq_true rfl) rfl d_F_reckonAll_31 (kkV (fun N31 h31 => ?_))
        obtain ⟨b1, b2, b3, b4⟩ := h31
        refine r_iinc3 C (pc := 34) rfl d_F_reckonAll_34 ?_
        refine r_goto C (pc := 37) (tgt := 12) d_F_reckonAll_37 (by decide) ?_
        refine r_weak ?_ (ih (c - 1) _ (by omega) (hx.tr b1) (by rw [es]; exact b2) (fun b h1 h2 h3 => by
          by_cases e : b = c - 1
          · subst e
            unfold hJ P0 P1 GR P0 P1 FB
            rw [show S.1 0 - 1 - (c - 1) = S.1 0 - c by omega]
            exact b3
          · obtain ⟨o1, o2, o3⟩ := b4 b e
            have := hj b (by omega) h2 h3
            unfold hJ at this ⊢
            rw [o1, o2, o3]
            exact this) (by omega))
        exact ⟨Or.inr rfl, Or.inr rfl, Or.inr rfl, Or.inr (by rw [show (c : Int) - 1 + -1 = ((c - 1 : Nat) : Int) - 1 by omega]), trivial⟩
set_option maxRecDepth 20000 in
theorem c_F_reckonAll (l : Launch) (E : zE) (M : zM) (S : zS) (hR : RX S M) (hO : ok S) (d q : Nat) (hd : d < 4096) (hq : q < 256) : zK l sX E y_F_reckonAll b_F_reckonAll 4 none 3 82 [.ref (E.2.2 1), .int (iI (d : Int)), .int (iI (q : Int))] M (zPv (fun M2 => bX M M2 ∧ hF S (FF S (fun p => q.testBit (7 - p)) (fun i => d.testBit i) (S.1 0)) M2 ∧ ∀ b, b < S.1 0 → d.testBit b = false → hJ S (fun p => q.testBit (7 - p)) (fun i => d.testBit i) M2 b)) := by
  refine zK.of "OldBeams$Frame" rfl (by decide) (Nat.le_of_ble_eq_true rfl) ?_
  intro G hS hE hQ hL C
  subst hE
  subst hL
  show VJ G M 0 [some (.ref (G.2.1.2.2 1)), some (.int (iI (d : Int))), some (.int (iI (q : Int))), none] []
  refine r_ald0 C (pc := 0) d_F_reckonAll_0 ?_
  refine r_ild2 C (pc := 1) d_F_reckonAll_1 ?_
  refine call_F_spreadForces C (pc := 2) hS (c_F_spreadForces _ _ M S hR hO q hq) k_348 (by decide) (Nat.le_of_ble_eq_true rfl) rfl d_F_reckonAll_2 (kkV (fun N2 h2 => ?_))
  obtain ⟨a1, a2, a3⟩ := h2
  have hx := bX_sf a1 a2
  refine r_ald0 C (pc := 5) d_F_reckonAll_5 ?_
  refine gX_F_beamCount C (pc := 6) hS k_97 d_F_reckonAll_6 ?_
  rw [(RXb hR hx).n]
  refine r_iconst C (pc := 9) d_F_reckonAll_9 ?_
  refine r_isub C (pc := 10) d_F_reckonAll_10 ?_
  refine r_ist3 C (pc := 11) rfl d_F_reckonAll_11 ?_
  exact l_F_reckonAll_12 C hS M S hR hO d q hd hq hQ (S.1 0 + 1) (S.1 0) N2 (by omega) hx (by rw [Nat.sub_self]; exact a3) (fun b h1 h2 => by omega) (by omega)
set_option maxRecDepth 20000 in
theorem c_F_reckonNow (l : Launch) (E : zE) (M : zM) (S : zS) (hR : RX S M) (hO : ok S) : zK l sX E y_F_reckonNow b_F_reckonNow 1 none 4 105 [.ref (E.2.2 1)] M (zPv (fun M2 => bX M M2 ∧ hF S (FF S (psS S) (dA S (flS S)) (S.1 0)) M2 ∧ ∀ b, b < S.1 0 → dA S (flS S) b = false → hJ S (psS S) (dA S (flS S)) M2 b)) := by
  refine zK.of "OldBeams$Frame" rfl (by decide) (Nat.le_of_ble_eq_true rfl) ?_
  intro G hS hE hQ hL C
  subst hE
  subst hL
  show VJ G M 0 [some (.ref (G.2.1.2.2 1))] []
  have h12 := hO.1
  obtain ⟨m, em, hm, hmb⟩ := hR.2.2.2.2.1
  obtain ⟨q, eq, hq, hqb⟩ := hR.2.2.2.2.2.2.2.1
  refine r_ald0 C (pc := 0) d_F_reckonNow_0 ?_
  refine r_ald0 C (pc := 1) d_F_reckonNow_1 ?_
  refine r_ald0 C (pc := 2) d_F_reckonNow_2 ?_
  refine gX_F_fallen C (pc := 3) hS k_100 d_F_reckonNow_3 ?_
  rw [em]
  refine call_F_downBy C (pc := 6) hS (c_F_downBy _ _ _ S (by assumption) hO _ (by omega)) k_289 (by decide) (Nat.le_of_ble_eq_true rfl) rfl d_F_reckonNow_6 (kkI (fun r6 N6 h6 => ?_))
  obtain ⟨⟨w, rfl, hw, hwb⟩, rfl⟩ := h6
  refine r_ald0 C (pc := 9) d_F_reckonNow_9 ?_
  refine gX_F_setProps C (pc := 10) hS k_114 d_F_reckonNow_10 ?_
  rw [eq]
  refine call_F_reckonAll C (pc := 13) hS (c_F_reckonAll _ _ M S hR hO w q hw hq) k_344 (by decide) (Nat.le_of_ble_eq_true rfl) rfl d_F_reckonNow_13 (kkV (fun N13 h13 => ?_))
  obtain ⟨b1, b2, b3⟩ := h13
  have hd : ∀ j, j < S.1 0 → w.testBit j = dA S (flS S) j := fun j hj => by rw [hwb j (by omega), if_pos hj, dA_fl hO hmb]
  have hp : ∀ j, j < S.1 3 → q.testBit (7 - j) = psS S j := fun j hj => hqb j (by omega)
  exact r_vret C (pc := 16) hQ (⟨b1, by rw [← FF_cong S (ps := fun p => q.testBit (7 - p)) (dw := fun i => w.testBit i) hp hd _ (Nat.le_refl _)]; exact b2, fun b h1 h2 => hJ_cong (ps := fun p => q.testBit (7 - p)) (dw := fun i => w.testBit i) hp hd (b3 b h1 (by rw [hd b h1]; exact h2))⟩) d_F_reckonNow_16
set_option maxRecDepth 20000 in
theorem l_F_firstNotHolding_11 {G : zG} (C : zC G b_F_firstNotHolding "OldBeams$Frame" (some .int) 4 4 105) (hS : G.1 = sX) (M : zM) (S : zS) (hR : RX S M) (hO : ok S) (d : Nat) (hd : d < 4096) (sh : Nat → Int) (hsh : ∀ b, b < S.1 0 → M.1 6 b = sh b ∧ 0 ≤ sh b ∧ sh b ≤ 10) (N : zM) (hx : bX M N) (hj : ∀ b, b < S.1 0 → d.testBit b = false → hJ S (psS S) (fun i => d.testBit i) N b) (hQ : G.2.2.1 = zPi (fun r M2 => r = (if FN S (psS S) (fun i => d.testBit i) sh < S.1 0 then (FN S (psS S) (fun i => d.testBit i) sh : Int) else -900009) ∧ bX M M2)) : ∀ (n : Nat) (j : Nat), (j ≤ S.1 0) → (∀ k, k < j → (!d.testBit k && !hoB S (psS S) (fun i => d.testBit i) k (sh k)) = false) → (S.1 0 - j < n) → VJ G N 11 [some (.ref (zad G 1)), some (.int (iI (d : Int))), some (.ref (zad G 6)), some (.int (iI (j : Int)))] [] := by
  intro n
  induction n with
  | zero =>
    intro j hjn hp hn
    exact absurd hn (by omega)
  | succ n ih =>
    intro j hjn hp hn
    have h12 := hO.n
    have hRN := RXb hR hx
    refine r_ild3 C (pc := 11) d_F_firstNotHolding_11 ?_
    refine r_ald0 C (pc := 12) d_F_firstNotHolding_12 ?_
    refine gX_F_beamCount C (pc := 13) hS k_97 d_F_firstNotHolding_13 ?_
    rw [hRN.n]
    refine r_icmp_ge C (pc := 16) (tgt := 46) (by omega) (by omega) d_F_firstNotHolding_16 (by decide) (fun c16 => ?_) (fun c16 => ?_)
    · refine r_ldc C (pc := 46) (z := (-900009)) k_296 rfl d_F_firstNotHolding_46 ?_
      exact r_iret C (pc := 48) hQ (⟨by rw [show FN S (psS S) (fun i => d.testBit i) sh = S.1 0 from fsN_none (S.1 0) (fun k hk => hp k (by omega)), if_neg (by omega)], hx⟩) d_F_firstNotHolding_48
    · have hsj := hsh j (by omega)
      refine r_ild1 C (pc := 19) d_F_firstNotHolding_19 ?_
      refine r_ild3 C (pc := 20) d_F_firstNotHolding_20 ?_
      refine calln_O_isIn C (pc := 21) hS rfl rfl (c_O_isIn _ _ _ _ _ (by omega) (by omega)) (by decide) (Nat.le_of_ble_eq_true rfl) rfl d_F_firstNotHolding_21 (kkI (fun r21 N21 h21 => ?_))
      obtain ⟨rfl, rfl⟩ := h21
      refine r_ifneB C (pc := 24) (tgt := 40) d_F_firstNotHolding_24 (by decide) (fun c24 => ?_) (fun c24 => ?_)
      · have hpj : (!d.testBit j && !hoB S (psS S) (fun i => d.testBit i) j (sh j)) = false := by rw [c24]; rfl
        refine r_iinc3 C (pc := 40) rfl d_F_firstNotHolding_40 ?_
        refine r_goto C (pc := 43) (tgt := 11) d_F_firstNotHolding_43 (by decide) ?_
        exact ih (j + 1) (by omega) (fun k hk => by
          rcases Nat.lt_or_ge k j with w | w
          · exact hp k w
          · rw [show k = j by omega]; exact hpj) (by omega)
      · have hdj : d.testBit j = false := Bool.eq_false_iff.mpr c24
        have hh := hJ_ho (hj j (by omega) hdj) (sh j)
        refine r_ald0 C (pc := 27) d_F_firstNotHolding_27 ?_
        refine r_ild3 C (pc := 28) d_F_firstNotHolding_28 ?_
        refine r_ald2 C (pc := 29) d_F_firstNotHolding_29 ?_
        refine r_ild3 C (pc := 30) d_F_firstNotHolding_30 ?_
        refine X_ialdN C (pc := 31) hS (j) (by omega) rfl (by decide) (by omega) (by decide) d_F_firstNotHolding_31 ?_
        rw [hx.1 6 j (by omega), hsj.1]
        refine call_F_holdsWith C (pc := 32) hS (c_F_holdsWith _ _ _ S (by assumption) hO _ (by omega) _ (by omega)) k_555 (by decide) (Nat.le_of_ble_eq_true rfl) rfl d_F_firstNotHolding_32 (kkI (fun r32 N32 h32 => ?_))
        obtain ⟨rfl, rfl⟩ := h32
        refine r_ifneB C (pc := 35) (tgt := 40) d_F_firstNotHolding_35 (by decide) (fun c35 => ?_) (fun c35 => ?_)
        · have hpj : (!d.testBit j && !hoB S (psS S) (fun i => d.testBit i) j (sh j)) = false := by rw [hh.mp c35]; simp
          refine r_iinc3 C (pc := 40) rfl d_F_firstNotHolding_40 ?_
          refine r_goto C (pc := 43) (tgt := 11) d_F_firstNotHolding_43 (by decide) ?_
          exact ih (j + 1) (by omega) (fun k hk => by
            rcases Nat.lt_or_ge k j with w | w
            · exact hp k w
            · rw [show k = j by omega]; exact hpj) (by omega)
        · refine r_ild3 C (pc := 38) d_F_firstNotHolding_38 ?_
          exact r_iret C (pc := 39) hQ (⟨by rw [show FN S (psS S) (fun i => d.testBit i) sh = j from fsN_at (by rw [hdj, Bool.eq_false_iff.mpr (fun z => c35 (hh.mpr z))]; rfl) hp (S.1 0) (by omega), if_pos (by omega)], hx⟩) d_F_firstNotHolding_39
set_option maxRecDepth 20000 in
theorem c_F_firstNotHolding (l : Launch) (E : zE) (M : zM) (S : zS) (hR : RX S M) (hO : ok S) (d : Nat) (hd : d < 4096) (sh : Nat → Int) (hsh : ∀ b, b < S.1 0 → M.1 6 b = sh b ∧ 0 ≤ sh b ∧ sh b ≤ 10) : zK l sX E y_F_firstNotHolding b_F_firstNotHolding 4 (some .int) 4 105 [.ref (E.2.2 1), .int (iI (d : Int)), .ref (E.2.2 6)] M (zPi (fun r M2 => r = (if FN S (psS S) (fun i => d.testBit i) sh < S.1 0 then (FN S (psS S) (fun i => d.testBit i) sh : Int) else -900009) ∧ bX M M2)) := by
  refine zK.of "OldBeams$Frame" rfl (by decide) (Nat.le_of_ble_eq_true rfl) ?_
  intro G hS hE hQ hL C
  subst hE
  subst hL
  show VJ G M 0 [some (.ref (G.2.1.2.2 1)), some (.int (iI (d : Int))), some (.ref (G.2.1.2.2 6)), none] []
  have h12 := hO.1
  obtain ⟨q, eq, hq, hqb⟩ := hR.2.2.2.2.2.2.2.1
  refine r_ald0 C (pc := 0) d_F_firstNotHolding_0 ?_
  refine r_ild1 C (pc := 1) d_F_firstNotHolding_1 ?_
  refine r_ald0 C (pc := 2) d_F_firstNotHolding_2 ?_
  refine gX_F_setProps C (pc := 3) hS k_114 d_F_firstNotHolding_3 ?_
  rw [eq]
  refine call_F_reckonAll C (pc := 6) hS (c_F_reckonAll _ _ M S hR hO d q hd hq) k_344 (by decide) (Nat.le_of_ble_eq_true rfl) rfl d_F_firstNotHolding_6 (kkV (fun N6 h6 => ?_))
  obtain ⟨b1, b2, b3⟩ := h6
  have hp : ∀ j, j < S.1 3 → q.testBit (7 - j) = psS S j := fun j hj => hqb j (by omega)
  refine r_iconst C (pc := 9) d_F_firstNotHolding_9 ?_
  refine r_ist3 C (pc := 10) rfl d_F_firstNotHolding_10 ?_
  exact l_F_firstNotHolding_11 C hS M S hR hO d hd sh hsh N6 b1 (fun b h1 h2 => hJ_cong (ps := fun p => q.testBit (7 - p)) hp (fun _ _ => rfl) (b3 b h1 h2)) hQ (S.1 0 + 1) 0 (by omega) (fun k hk => absurd hk (Nat.not_lt_zero k)) (by omega)
set_option maxRecDepth 20000 in
theorem l_F_standsWith_12 {G : zG} (C : zC G b_F_standsWith "OldBeams$Frame" (some .boolean) 4 3 82) (hS : G.1 = sX) (M : zM) (S : zS) (hR : RX S M) (hO : ok S) (q : Nat) (hq : q < 256) (sh : Nat → Int) (hsh : ∀ b, b < S.1 0 → M.1 6 b = sh b ∧ 0 ≤ sh b ∧ sh b ≤ 10) (hQ : G.2.2.1 = zPi (fun r M2 => r = zb (alN (fun b => hoB S (fun p => q.testBit (7 - p)) (fun _ => false) b (sh b)) (S.1 0) = true) ∧ bX M M2)) : ∀ (n : Nat) (c : Nat) (N : zM), (c ≤ S.1 0) → (bX M N) → (hF S (FF S (fun p => q.testBit (7 - p)) (fun _ => false) (S.1 0 - c)) N) → (∀ b, c ≤ b → b < S.1 0 → hoB S (fun p => q.testBit (7 - p)) (fun _ => false) b (sh b) = true) → (c < n) → VJ G N 12 [some (.ref (zad G 1)), some (.int (iI (q : Int))), some (.ref (zad G 6)), some (.int (iI ((c : Int) - 1)))] [] := by
  intro n
  induction n with
  | zero =>
    intro c N hc hx hf hj hn
    exact absurd hn (by omega)
  | succ n ih =>
    intro c N hc hx hf hj hn
    have h12 := hO.n
    have hRN := RXb hR hx
    have es := FF_succ S (fun p => q.testBit (7 - p)) (fun _ => false) (S.1 0 - c)
    refine r_ild3 C (pc := 12) d_F_standsWith_12 ?_
    refine r_if_lt C (pc := 13) (tgt := 45) (by omega) d_F_standsWith_13 (by decide) (fun c13 => ?_) (fun c13 => ?_)
    · refine r_iconst C (pc := 45) d_F_standsWith_45 ?_
      exact r_zret C (pc := 46) hQ (by first | exact Or.inl rfl | exact Or.inr rfl | exact zb_01 _ | assumption) (⟨zb_of1 ((alN_iff _ _).mpr (fun b hb => hj b (by omega) hb)), hx⟩) d_F_standsWith_46
    · rw [show S.1 0 - c + 1 = S.1 0 - (c - 1) by omega, show S.1 0 - 1 - (S.1 0 - c) = c - 1 by omega, if_neg (by decide)] at es
      have hsj := hsh (c - 1) (by omega)
      refine r_ald0 C (pc := 16) d_F_standsWith_16 ?_
      refine r_ald0 C (pc := 17) d_F_standsWith_17 ?_
      refine gX_F_beams C (pc := 18) hS k_95 d_F_standsWith_18 ?_
      refine r_ild3 C (pc := 21) d_F_standsWith_21 ?_
      refine X_beamsN C (pc := 22) hS ((c - 1)) (by omega) (by omega) d_F_standsWith_22 ?_
      refine call_F_reckonBeam C (pc := 23) hS (c_F_reckonBeam _ _ N S hRN hO (c - 1) (by omega) _ hf) k_362 (by decide) (Nat.le_of_ble_eq_true rfl) rfl d_F_standsWith_23 (kkV (fun N23 h23 => ?_))
      obtain ⟨b1, b2, b3, b4⟩ := h23
      have hx2 := hx.tr b1
      have hR2 := RXb hR hx2
      have hJc : hJ S (fun p => q.testBit (7 - p)) (fun _ => false) N23 (c - 1) := by
        unfold hJ P0 P1 GR P0 P1 FB
        rw [show S.1 0 - 1 - (c - 1) = S.1 0 - c by omega]
        exact b3
      have hh := hJ_ho hJc (sh (c - 1))
      refine r_ald0 C (pc := 26) d_F_standsWith_26 ?_
      refine r_ild3 C (pc := 27) d_F_standsWith_27 ?_
      refine r_ald2 C (pc := 28) d_F_standsWith_28 ?_
      refine r_ild3 C (pc := 29) d_F_standsWith_29 ?_
      refine X_ialdN C (pc := 30) hS ((c - 1)) (by omega) rfl (by decide) (by omega) (by decide) d_F_standsWith_30 ?_
      rw [hx2.1 6 (c - 1) (by omega), hsj.1]
      rw [show (c : Int) - 1 = ((c - 1 : Nat) : Int) by omega]
      refine call_F_holdsWith C (pc := 31) hS (c_F_holdsWith _ _ _ S hR2 hO (c - 1) (by omega) _ (by omega)) k_555 (by decide) (Nat.le_of_ble_eq_true rfl) rfl d_F_standsWith_31 (kkI (fun r31 N31 h31 => ?_))
      obtain ⟨rfl, rfl⟩ := h31
      refine r_ifneB C (pc := 34) (tgt := 39) d_F_standsWith_34 (by decide) (fun c34 => ?_) (fun c34 => ?_)
      · refine r_iinc3 C (pc := 39) rfl d_F_standsWith_39 ?_
        refine r_goto C (pc := 42) (tgt := 12) d_F_standsWith_42 (by decide) ?_
        refine r_weak ?_ (ih (c - 1) _ (by omega) hx2 (by rw [es]; exact b2) (fun b h1 h2 => by
          by_cases e : b = c - 1
          · subst e; exact hh.mp c34
          · exact hj b (by omega) h2) (by omega))
        exact ⟨Or.inr rfl, Or.inr rfl, Or.inr rfl, Or.inr (by first | rfl | rw [show ((c - 1 : Nat) : Int) + -1 = ((c - 1 : Nat) : Int) - 1 by omega]), trivial⟩
      · refine r_iconst C (pc := 37) d_F_standsWith_37 ?_
        exact r_zret C (pc := 38) hQ (by first | exact Or.inl rfl | exact Or.inr rfl | exact zb_01 _ | assumption) (⟨zb_of0 (fun z => c34 (hh.mpr ((alN_iff _ _).mp z (c - 1) (by omega)))), hx2⟩) d_F_standsWith_38
set_option maxRecDepth 20000 in
theorem c_F_standsWith (l : Launch) (E : zE) (M : zM) (S : zS) (hR : RX S M) (hO : ok S) (q : Nat) (hq : q < 256) (sh : Nat → Int) (hsh : ∀ b, b < S.1 0 → M.1 6 b = sh b ∧ 0 ≤ sh b ∧ sh b ≤ 10) : zK l sX E y_F_standsWith b_F_standsWith 4 (some .boolean) 3 82 [.ref (E.2.2 1), .int (iI (q : Int)), .ref (E.2.2 6)] M (zPi (fun r M2 => r = zb (alN (fun b => hoB S (fun p => q.testBit (7 - p)) (fun _ => false) b (sh b)) (S.1 0) = true) ∧ bX M M2)) := by
  refine zK.of "OldBeams$Frame" rfl (by decide) (Nat.le_of_ble_eq_true rfl) ?_
  intro G hS hE hQ hL C
  subst hE
  subst hL
  show VJ G M 0 [some (.ref (G.2.1.2.2 1)), some (.int (iI (q : Int))), some (.ref (G.2.1.2.2 6)), none] []
  refine r_ald0 C (pc := 0) d_F_standsWith_0 ?_
  refine r_ild1 C (pc := 1) d_F_standsWith_1 ?_
  refine call_F_spreadForces C (pc := 2) hS (c_F_spreadForces _ _ M S hR hO q hq) k_348 (by decide) (Nat.le_of_ble_eq_true rfl) rfl d_F_standsWith_2 (kkV (fun N2 h2 => ?_))
  obtain ⟨a1, a2, a3⟩ := h2
  have hx := bX_sf a1 a2
  refine r_ald0 C (pc := 5) d_F_standsWith_5 ?_
  refine gX_F_beamCount C (pc := 6) hS k_97 d_F_standsWith_6 ?_
  rw [(RXb hR hx).n]
  refine r_iconst C (pc := 9) d_F_standsWith_9 ?_
  refine r_isub C (pc := 10) d_F_standsWith_10 ?_
  refine r_ist3 C (pc := 11) rfl d_F_standsWith_11 ?_
  exact l_F_standsWith_12 C hS M S hR hO q hq sh hsh hQ (S.1 0 + 1) (S.1 0) N2 (by omega) hx (by rw [Nat.sub_self]; exact a3) (fun b h1 h2 => by omega) (by omega)
