theorem redx {a b c d : Nat} (hb : 0 < b) (hd : 0 < d) : a / Nat.gcd a b * (d / Nat.gcd c d) < c / Nat.gcd c d * (b / Nat.gcd a b) ↔ a * d < c * b := by
  have hg : 0 < Nat.gcd a b := Nat.gcd_pos_of_pos_right a hb
  have hh : 0 < Nat.gcd c d := Nat.gcd_pos_of_pos_right c hd
  have ea := Nat.mul_div_cancel' (Nat.gcd_dvd_left a b)
  have eb := Nat.mul_div_cancel' (Nat.gcd_dvd_right a b)
  have ec := Nat.mul_div_cancel' (Nat.gcd_dvd_left c d)
  have ed := Nat.mul_div_cancel' (Nat.gcd_dvd_right c d)
  generalize a / Nat.gcd a b = a2 at *
  generalize b / Nat.gcd a b = b2 at *
  generalize c / Nat.gcd c d = c2 at *
  generalize d / Nat.gcd c d = d2 at *
  generalize Nat.gcd a b = g at *
  generalize Nat.gcd c d = h at *
  have e1 : a * d = g * h * (a2 * d2) := by rw [← ea, ← ed]; grind
  have e2 : c * b = g * h * (c2 * b2) := by rw [← eb, ← ec]; grind
  rw [e1, e2]
  exact (Nat.mul_lt_mul_left (Nat.mul_pos hg hh)).symm
theorem red_pos {a b : Nat} (hb : 0 < b) : 0 < b / Nat.gcd a b := Nat.div_pos (Nat.le_of_dvd hb (Nat.gcd_dvd_right a b)) (Nat.gcd_pos_of_pos_right a hb)
theorem wkN_succ (S : zS) (y : Int) (k : Nat) : wkN S y (k + 1) = if dA S (flS S) k = true then wkN S y k else if wkN S y k = -900009 ∨ held S k y * allO S (wkN S y k).toNat y < held S (wkN S y k).toNat y * allO S k y then (k : Int) else wkN S y k := rfl
theorem wkN_rng (S : zS) (y : Int) : ∀ k : Nat, wkN S y k = -900009 ∨ (0 ≤ wkN S y k ∧ wkN S y k < (k : Int))
  | 0 => Or.inl rfl
  | k + 1 => by
    have ih := wkN_rng S y k
    rw [wkN_succ]
    split
    · omega
    · split <;> omega
theorem blN_succ (S : zS) (y : Int) (c : Nat) : blN S y (c + 1) = if dA S (flS S) (c / 4) = true then blN S y c else if blN S y c = -1 then (if 0 < wor S (c / 4) y (c % 4) then (c : Int) else -1) else if wor S ((blN S y c).toNat / 4) y ((blN S y c).toNat % 4) * (9 * allO S (c / 4) y) < wor S (c / 4) y (c % 4) * (9 * allO S ((blN S y c).toNat / 4) y) then (c : Int) else blN S y c := rfl
def bfA (S : zS) (y : Int) (c : Int) : Nat := if c = -1 then 0 else wor S (c.toNat / 4) y (c.toNat % 4)
def bfB (S : zS) (y : Int) (c : Int) : Nat := if c = -1 then 1 else 9 * allO S (c.toNat / 4) y
theorem blN_rng (S : zS) (y : Int) : ∀ k : Nat, blN S y k = -1 ∨ (0 ≤ blN S y k ∧ blN S y k < (k : Int))
  | 0 => Or.inl rfl
  | k + 1 => by
    have ih := blN_rng S y k
    rw [blN_succ]
    split
    · omega
    · split
      · split <;> omega
      · split <;> omega
theorem blN_up (S : zS) (y : Int) {c : Nat} (hd : dA S (flS S) (c / 4) = false) : blN S y (c + 1) = if bfA S y (blN S y c) * (9 * allO S (c / 4) y) < wor S (c / 4) y (c % 4) * bfB S y (blN S y c) then (c : Int) else blN S y c := by
  rw [blN_succ, hd, if_neg (by decide)]
  unfold bfA bfB
  by_cases h : blN S y c = -1
  · rw [if_pos h, if_pos h, if_pos h, Nat.zero_mul, Nat.mul_one, h]
  · rw [if_neg h, if_neg h, if_neg h]
theorem blN_dn (S : zS) (y : Int) {i : Nat} (hd : dA S (flS S) i = true) : blN S y (4 * (i + 1)) = blN S y (4 * i) := by
  have key : ∀ t, t < 4 → blN S y (4 * i + t + 1) = blN S y (4 * i + t) := fun t ht => by
    rw [blN_succ, show (4 * i + t) / 4 = i by omega, if_pos hd]
  have k0 := key 0 (by decide)
  have k1 := key 1 (by decide)
  have k2 := key 2 (by decide)
  have k3 := key 3 (by decide)
  rw [show 4 * (i + 1) = 4 * i + 3 + 1 by omega, k3, show 4 * i + 3 = 4 * i + 2 + 1 by omega, k2, show 4 * i + 2 = 4 * i + 1 + 1 by omega, k1, show 4 * i + 1 = 4 * i + 0 + 1 by omega, k0]
  rfl
theorem kX_4 {N0 N : zM} (h1 : N.1 = N0.1) (h2 : ∀ a, 45 ≤ a → N.2 a = N0.2 a) : kX N0 N := kX_J h1 h2
theorem hJ_45 {S : zS} {ps dw : Nat → Bool} {N0 N : zM} {b : Nat} (h1 : N.1 = N0.1) (h2 : ∀ a, 45 ≤ a → N.2 a = N0.2 a) (h : hJ S ps dw N0 b) : hJ S ps dw N b := by
  unfold hJ at h ⊢
  rw [h1, h2 _ (by omega), h2 _ (by omega)]
  exact h
theorem held_le (S : zS) (b : Nat) (y : Int) : held S b y ≤ allO S b y := Nat.sub_le _ _
theorem lt63 {a : Nat} (h : a < 2 ^ 60) (b : Nat) : a / b < 2 ^ 63 := Nat.lt_of_le_of_lt (Nat.div_le_self a b) (by omega)
set_option maxRecDepth 20000 in
theorem l_O_weakest_22 {G : zG} (C : zC G b_O_weakest "OldBeams" (some .int) 4 5 125) (hS : G.1 = sX) (M : zM) (S : zS) (hR : RX S M) (hO : ok S) (y : Int) (hy : 0 ≤ y ∧ y ≤ 500) (N0 : zM) (hR0 : RX S N0) (hj : ∀ b, b < S.1 0 → dA S (flS S) b = false → hJ S (psS S) (dA S (flS S)) N0 b) (hQ : G.2.2.1 = zPi (fun r M2 => r = fWeak S y ∧ RX S M2)) : ∀ (n : Nat) (j : Nat) (N : zM), (j ≤ S.1 0) → (N.1 = N0.1) → (∀ a, 45 ≤ a → N.2 a = N0.2 a) → (wkN S y j ≠ -900009 → N.2 4 0 = lN (held S (wkN S y j).toNat y / Nat.gcd (held S (wkN S y j).toNat y) (allO S (wkN S y j).toNat y)) ∧ N.2 4 1 = lN (allO S (wkN S y j).toNat y / Nat.gcd (held S (wkN S y j).toNat y) (allO S (wkN S y j).toNat y))) → (S.1 0 - j < n) → VJ G N 22 [some (.ref (zad G 0)), some (.int (iI y)), some (.int (iI (wkN S y j))), some (.int (iI (j : Int)))] [] := by
  intro n
  induction n with
  | zero =>
    intro j N hjn hN1 hN2 hw hn
    exact absurd hn (by omega)
  | succ n ih =>
    intro j N hjn hN1 hN2 hw hn
    have h12 := hO.n
    have hRN := RXk hR0 (kX_4 hN1 hN2)
    have hwr := wkN_rng S y j
    have es := wkN_succ S y j
    refine r_ild3 C (pc := 22) d_O_weakest_22 ?_
    refine r_ald0 C (pc := 23) d_O_weakest_23 ?_
    refine gX_O_frame C (pc := 24) hS k_201 d_O_weakest_24 ?_
    refine gX_F_beamCount C (pc := 27) hS k_98 d_O_weakest_27 ?_
    rw [hRN.n]
    refine r_icmp_ge C (pc := 30) (tgt := 101) (by omega) (by omega) d_O_weakest_30 (by decide) (fun c30 => ?_) (fun c30 => ?_)
    · refine r_ild2 C (pc := 101) d_O_weakest_101 ?_
      exact r_iret C (pc := 102) hQ (⟨by unfold fWeak; rw [if_neg (show ¬ ¬ (0 ≤ y ∧ y ≤ 500) by omega), show S.1 0 = j by omega], hRN⟩) d_O_weakest_102
    · refine r_ald0 C (pc := 33) d_O_weakest_33 ?_
      refine gX_O_frame C (pc := 34) hS k_201 d_O_weakest_34 ?_
      refine r_ild3 C (pc := 37) d_O_weakest_37 ?_
      refine call_F_isDown C (pc := 38) hS (c_F_isDown _ _ _ S (by assumption) hO _ (by omega)) k_285 (by decide) (Nat.le_of_ble_eq_true rfl) rfl d_O_weakest_38 (kkI (fun r38 N38 h38 => ?_))
      obtain ⟨rfl, rfl⟩ := h38
      refine r_ifeqB C (pc := 41) (tgt := 47) d_O_weakest_41 (by decide) (fun c41 => ?_) (fun c41 => ?_)
      · have hdn : dA S (flS S) j = false := Bool.eq_false_iff.mpr c41
        rw [if_neg c41] at es
        have hab := all_bnd hO (b := j) (by omega) y
        have hhl := held_le S j y
        have K82 : ∀ N2 : zM, N2.1 = N0.1 → (∀ a, 45 ≤ a → N2.2 a = N0.2 a) → wkN S y (j + 1) = (j : Int) → N2.2 3 0 = lN (held S j y / Nat.gcd (held S j y) (allO S j y)) → N2.2 3 1 = lN (allO S j y / Nat.gcd (held S j y) (allO S j y)) → VJ G N2 82 [some (.ref (zad G 0)), some (.int (iI y)), some (.int (iI (wkN S y j))), some (.int (iI (j : Int)))] [] := by
          intro N2 g1 g2 g3 g4 g5
          refine r_ild3 C (pc := 82) d_O_weakest_82 ?_
          refine r_ist2 C (pc := 83) rfl d_O_weakest_83 ?_
          refine r_ald0 C (pc := 84) d_O_weakest_84 ?_
          refine gX_O_best C (pc := 85) hS k_204 d_O_weakest_85 ?_
          refine r_ald0 C (pc := 88) d_O_weakest_88 ?_
          refine gX_O_fraction C (pc := 89) hS k_203 d_O_weakest_89 ?_
          refine call_Q_copy C (pc := 92) hS (by decide) (c_Q_copy _ _ N2 (by decide) (by decide)) k_539 (by decide) (Nat.le_of_ble_eq_true rfl) rfl d_O_weakest_92 (kkV (fun N92 h92 => ?_))
          subst h92
          refine r_iinc3 C (pc := 95) rfl d_O_weakest_95 ?_
          refine r_goto C (pc := 98) (tgt := 22) d_O_weakest_98 (by decide) ?_
          refine r_weak ?_ (ih (j + 1) _ (by omega) g1 (fun a q => ((zJ_fn (by omega)).trans (zJ_fn (by omega))).trans (g2 a q)) (fun _ => by rw [g3, Int.toNat_natCast]; exact ⟨by rw [zJ_row (by decide), zJ_same]; exact g4, by rw [zJ_same]; exact g5⟩) (by omega))
          exact ⟨Or.inr rfl, Or.inr rfl, Or.inr (by rw [g3]), Or.inr rfl, trivial⟩
        refine r_ald0 C (pc := 47) d_O_weakest_47 ?_
        refine gX_O_looks C (pc := 48) hS k_202 d_O_weakest_48 ?_
        refine r_ild3 C (pc := 51) d_O_weakest_51 ?_
        refine r_ild1 C (pc := 52) d_O_weakest_52 ?_
        refine call_K_reckonOdds C (pc := 53) hS (c_K_reckonOdds _ _ N S hRN hO j (by omega) y hy) k_455 (by decide) (Nat.le_of_ble_eq_true rfl) rfl d_O_weakest_53 (kkI (fun r53 N53 h53 => ?_))
        obtain ⟨-, a1, a2, a3⟩ := h53
        have d1 : N53.1 = N0.1 := a1.trans hN1
        have d2 : ∀ a, 45 ≤ a → N53.2 a = N0.2 a := fun a q => (a2 a (by omega) (by omega)).trans (hN2 a q)
        have hR3 := RXk hR0 (kX_4 d1 d2)
        refine r_pop C (pc := 56) rfl d_O_weakest_56 ?_
        refine r_ald0 C (pc := 57) d_O_weakest_57 ?_
        refine r_ild3 C (pc := 58) d_O_weakest_58 ?_
        refine call_O_putChance C (pc := 59) hS (c_O_putChance _ _ N53 S hR3 hO j (by omega) y (hJ_45 d1 d2 (hj j (by omega) hdn)) a3) k_510 (by decide) (Nat.le_of_ble_eq_true rfl) rfl d_O_weakest_59 (kkV (fun N59 h59 => ?_))
        have e3 : N59.1 = N0.1 := by rw [← h59]; exact d1
        have e4 : ∀ a, 45 ≤ a → N59.2 a = N0.2 a := fun a q => by rw [← h59, zJ_fn (by omega), zJ_fn (by omega)]; exact d2 a q
        have e5 : N59.2 3 0 = lN (held S j y / Nat.gcd (held S j y) (allO S j y)) := by rw [← h59, zJ_row (by decide), zJ_same]
        have e6 : N59.2 3 1 = lN (allO S j y / Nat.gcd (held S j y) (allO S j y)) := by rw [← h59, zJ_same]
        have e7 : N59.2 4 = N.2 4 := by rw [← h59, zJ_fn (by decide), zJ_fn (by decide)]; exact a2 4 (by decide) (by decide)
        refine r_ild2 C (pc := 62) d_O_weakest_62 ?_
        refine r_ldc C (pc := 63) (z := (-900009)) k_267 rfl d_O_weakest_63 ?_
        refine r_icmp_eq C (pc := 65) (tgt := 82) (by omega) (by omega) d_O_weakest_65 (by decide) (fun c65 => ?_) (fun c65 => ?_)
        · rw [if_pos (Or.inl c65)] at es
          exact K82 N59 e3 e4 es e5 e6
        · obtain ⟨hw1, hw2⟩ := hw c65
          have hbw := all_bnd hO (b := (wkN S y j).toNat) (by omega) y
          have hhw := held_le S (wkN S y j).toNat y
          have hrx := redx (a := held S j y) (c := held S (wkN S y j).toNat y) hab.1 hbw.1
          refine r_ald0 C (pc := 68) d_O_weakest_68 ?_
          refine gX_O_fraction C (pc := 69) hS k_203 d_O_weakest_69 ?_
          refine r_ald0 C (pc := 72) d_O_weakest_72 ?_
          refine gX_O_best C (pc := 73) hS k_204 d_O_weakest_73 ?_
          refine call_Q_isLessThan C (pc := 76) hS (by decide) (c_Q_isLessThan _ _ N59 3 4 (by decide) (by decide) _ _ _ _ (lt63 (a := held S j y) (by omega) _) (lt63 (a := allO S j y) (by omega) _) (lt63 (a := held S (wkN S y j).toNat y) (by omega) _) (lt63 (a := allO S (wkN S y j).toNat y) (by omega) _) (red_pos hab.1) (red_pos hbw.1) e5 e6 (by rw [e7]; exact hw1) (by rw [e7]; exact hw2)) k_535 (by decide) (Nat.le_of_ble_eq_true rfl) rfl d_O_weakest_76 (kkI (fun r76 N76 h76 => ?_))
          obtain ⟨rfl, rfl⟩ := h76
          refine r_ifeqB C (pc := 79) (tgt := 95) d_O_weakest_79 (by decide) (fun c79 => ?_) (fun c79 => ?_)
          · rw [if_neg (fun q => q.elim c65 (fun z => c79 (hrx.mpr z)))] at es
            refine r_iinc3 C (pc := 95) rfl d_O_weakest_95 ?_
            refine r_goto C (pc := 98) (tgt := 22) d_O_weakest_98 (by decide) ?_
            refine r_weak ?_ (ih (j + 1) _ (by omega) e3 e4 (fun q => by rw [es] at q ⊢; exact (by rw [e7]; exact hw q)) (by omega))
            exact ⟨Or.inr rfl, Or.inr rfl, Or.inr (by rw [es]), Or.inr rfl, trivial⟩
          · rw [if_pos (Or.inr (hrx.mp c79))] at es
            exact K82 N59 e3 e4 es e5 e6
      · rw [if_pos c41] at es
        refine r_goto C (pc := 44) (tgt := 95) d_O_weakest_44 (by decide) ?_
        refine r_iinc3 C (pc := 95) rfl d_O_weakest_95 ?_
        refine r_goto C (pc := 98) (tgt := 22) d_O_weakest_98 (by decide) ?_
        refine r_weak ?_ (ih (j + 1) _ (by omega) hN1 hN2 (fun q => by rw [es] at q ⊢; exact hw q) (by omega))
        exact ⟨Or.inr rfl, Or.inr rfl, Or.inr (by rw [es]), Or.inr rfl, trivial⟩
set_option maxRecDepth 20000 in
theorem c_O_weakest (l : Launch) (E : zE) (M : zM) (S : zS) (hR : RX S M) (hO : ok S) (y : Int) (hy : -2147483648 ≤ y ∧ y < 2147483648) : zK l sX E y_O_weakest b_O_weakest 4 (some .int) 5 125 [.ref (E.2.2 0), .int (iI y)] M (zPi (fun r M2 => r = fWeak S y ∧ RX S M2)) := by
  refine zK.of "OldBeams" rfl (by decide) (Nat.le_of_ble_eq_true rfl) ?_
  intro G hS hE hQ hL C
  subst hE
  subst hL
  show VJ G M 0 [some (.ref (G.2.1.2.2 0)), some (.int (iI y)), none, none] []
  have h12 := hO.n
  have hbn := hR.n
  refine r_ild1 C (pc := 0) d_O_weakest_0 ?_
  refine call_O_isYear C (pc := 1) hS (c_O_isYear _ _ _ _ (by omega)) k_236 (by decide) (Nat.le_of_ble_eq_true rfl) rfl d_O_weakest_1 (kkI (fun r1 N1 h1 => ?_))
  obtain ⟨rfl, rfl⟩ := h1
  refine r_ifneB C (pc := 4) (tgt := 10) d_O_weakest_4 (by decide) (fun c4 => ?_) (fun c4 => ?_)
  · refine r_ald0 C (pc := 10) d_O_weakest_10 ?_
    refine gX_O_frame C (pc := 11) hS k_201 d_O_weakest_11 ?_
    refine call_F_reckonNow C (pc := 14) hS (c_F_reckonNow _ _ M S hR hO) k_340 (by decide) (Nat.le_of_ble_eq_true rfl) rfl d_O_weakest_14 (kkV (fun N14 h14 => ?_))
    obtain ⟨b1, b2, b3⟩ := h14
    have hR2 := RXb hR b1
    refine r_ldc C (pc := 17) (z := (-900009)) k_267 rfl d_O_weakest_17 ?_
    refine r_ist2 C (pc := 19) rfl d_O_weakest_19 ?_
    refine r_iconst C (pc := 20) d_O_weakest_20 ?_
    refine r_ist3 C (pc := 21) rfl d_O_weakest_21 ?_
    exact l_O_weakest_22 C hS M S hR hO y (by omega) N14 hR2 b3 hQ (S.1 0 + 1) 0 N14 (by omega) rfl (fun _ _ => rfl) (fun q => absurd rfl q) (by omega)
  · refine r_ldc C (pc := 7) (z := (-900002)) k_231 rfl d_O_weakest_7 ?_
    exact r_iret C (pc := 9) hQ (⟨by unfold fWeak; rw [if_pos (by omega)], hR⟩) d_O_weakest_9
theorem dw_cnt2 {S : zS} (hO : ok S) {f : Nat → Bool} {w : Nat} (h : ∀ i, i < 12 → w.testBit i = if i < S.1 0 then f i else false) : dcnt (fun i => w.testBit i) 12 = dcnt f (S.1 0) := by
  have hn := hO.n
  rw [show 12 = S.1 0 + (12 - S.1 0) by omega, dcnt_ext (12 - S.1 0) (fun j h1 h2 => by
    show w.testBit j = false
    rw [h j (by omega), if_neg (by omega)])]
  refine dcnt_cong _ (fun j hj => ?_)
  show w.testBit j = _
  rw [h j (by omega), if_pos hj]
set_option maxRecDepth 20000 in
theorem c_O_chain (l : Launch) (E : zE) (M : zM) (S : zS) (hR : RX S M) (hO : ok S) (b y : Int) (hb : -2147483648 ≤ b ∧ b < 2147483648) (hy : -2147483648 ≤ y ∧ y < 2147483648) : zK l sX E y_O_chain b_O_chain 4 (some .int) 6 154 [.ref (E.2.2 0), .int (iI b), .int (iI y)] M (zPi (fun r M2 => r = fChain S b y ∧ RX S M2)) := by
  refine zK.of "OldBeams" rfl (by decide) (Nat.le_of_ble_eq_true rfl) ?_
  intro G hS hE hQ hL C
  subst hE
  subst hL
  show VJ G M 0 [some (.ref (G.2.1.2.2 0)), some (.int (iI b)), some (.int (iI y)), none] []
  have h12 := hO.n
  have hbn := hR.n
  refine r_ald0 C (pc := 0) d_O_chain_0 ?_
  refine r_ild1 C (pc := 1) d_O_chain_1 ?_
  refine r_ild2 C (pc := 2) d_O_chain_2 ?_
  refine call_O_isYear C (pc := 3) hS (c_O_isYear _ _ _ _ (by omega)) k_236 (by decide) (Nat.le_of_ble_eq_true rfl) rfl d_O_chain_3 (kkI (fun r3 N3 h3 => ?_))
  obtain ⟨rfl, rfl⟩ := h3
  refine call_O_refusal C (pc := 6) hS (c_O_refusal _ _ _ S (by assumption) hO _ _ (by omega) (by first | exact zb_01 _ | omega)) k_336 (by decide) (Nat.le_of_ble_eq_true rfl) rfl d_O_chain_6 (kkI (fun r6 N6 h6 => ?_))
  obtain ⟨rfl, rfl⟩ := h6
  rw [rfS_congr (Q := 0 ≤ y ∧ y ≤ 500) (by first | exact zb_1 _ | decide | omega)]
  have hrr := rfS_rng S b (0 ≤ y ∧ y ≤ 500)
  refine r_ist3 C (pc := 9) rfl d_O_chain_9 ?_
  refine r_ild3 C (pc := 10) d_O_chain_10 ?_
  refine r_if_eq C (pc := 11) (tgt := 16) (by omega) d_O_chain_11 (by decide) (fun c11 => ?_) (fun c11 => ?_)
  · obtain ⟨⟨hb0, hb1⟩, hin, hdn⟩ := rfS_0 c11
    obtain ⟨b, rfl⟩ := Int.eq_ofNat_of_zero_le hb0
    rw [Int.toNat_natCast] at hdn
    have hb : b < S.1 0 := by omega
    refine r_ald0 C (pc := 16) d_O_chain_16 ?_
    refine r_ild2 C (pc := 17) d_O_chain_17 ?_
    refine r_iconst C (pc := 18) d_O_chain_18 ?_
    refine call_O_takeShares C (pc := 19) hS (c_O_takeShares _ _ M S hR hO y (by omega) 0 (by decide)) k_494 (by decide) (Nat.le_of_ble_eq_true rfl) rfl d_O_chain_19 (kkV (fun N19 h19 => ?_))
    obtain ⟨s1, s2, s3⟩ := h19
    have hRs := RXk hR (kX_ts s2 s3)
    refine r_ald0 C (pc := 22) d_O_chain_22 ?_
    refine gX_O_frame C (pc := 23) hS k_201 d_O_chain_23 ?_
    refine r_ild1 C (pc := 26) d_O_chain_26 ?_
    refine r_ald0 C (pc := 27) d_O_chain_27 ?_
    refine gX_O_shares C (pc := 28) hS k_206 d_O_chain_28 ?_
    refine r_ald0 C (pc := 31) d_O_chain_31 ?_
    refine gX_O_fallOrder C (pc := 32) hS k_207 d_O_chain_32 ?_
    refine call_F_tryFall C (pc := 35) hS (c_F_tryFall _ _ N19 S hRs hO b hb hdn (knS S y) (fun c hc => ⟨s1 c hc, by show (0 : Int) ≤ (KS S c y false : Int); omega, by have := KS_le hO hc y false; show (KS S c y false : Int) ≤ 10; omega⟩)) k_547 (by decide) (Nat.le_of_ble_eq_true rfl) rfl d_O_chain_35 (kkI (fun r35 N35 h35 => ?_))
    obtain ⟨rfl, t1, t2, w, ew, hw, hwb⟩ := h35
    have hR2 := RXk hRs t1.k
    refine r_pop C (pc := 38) rfl d_O_chain_38 ?_
    refine r_ald0 C (pc := 39) d_O_chain_39 ?_
    refine gX_O_frame C (pc := 40) hS k_201 d_O_chain_40 ?_
    refine gX_F_triedDown C (pc := 43) hS k_117 d_O_chain_43 ?_
    rw [ew]
    refine call_In_bitCount C (pc := 46) hS (c_In_bitCount _ _ _ _ (by omega)) k_326 (by decide) (Nat.le_of_ble_eq_true rfl) rfl d_O_chain_46 (kkI (fun r46 N46 h46 => ?_))
    obtain ⟨rfl, rfl⟩ := h46
    exact r_iret C (pc := 49) hQ (⟨by unfold fChain; rw [if_neg (fun q => q c11), Int.toNat_natCast, dw_cnt2 hO hwb], hR2⟩) d_O_chain_49
  · refine r_ild3 C (pc := 14) d_O_chain_14 ?_
    exact r_iret C (pc := 15) hQ (⟨by unfold fChain; rw [if_pos c11], hR⟩) d_O_chain_15
theorem TM_le {S : zS} {ps : Nat → Bool} {sh : Nat → Int} {b : Nat} (hO : ok S) (hb : dA S (flS S) b = false) (hbn : b < S.1 0) : 1 ≤ TM S ps sh b ∧ TM S ps sh b ≤ 12 := by
  have h0 : ¬ S.1 0 ≤ (tS S ps sh b 0).2 := Nat.not_le.mpr hbn
  constructor
  · rcases Nat.eq_zero_or_pos (TM S ps sh b) with e | e
    · have := fsN_yes (fun k => decide (S.1 0 ≤ (tS S ps sh b k).2)) 13 (by show TM S ps sh b < 13; omega)
      rw [show fsN (fun k => decide (S.1 0 ≤ (tS S ps sh b k).2)) 13 = 0 from e] at this
      simp at this
      omega
    · exact e
  · rcases Nat.lt_or_ge (TM S ps sh b) 13 with e | e
    · omega
    · have hall : ∀ j, j < 12 → (tS S ps sh b j).2 < S.1 0 := fun j hj => by
        have := fsN_no (fun k => decide (S.1 0 ≤ (tS S ps sh b k).2)) 13 j (by show j < TM S ps sh b; omega)
        simp at this
        omega
      have h12 := tS_end (ps := ps) (sh := sh) hO hb hbn hall
      have := fsN_no (fun k => decide (S.1 0 ≤ (tS S ps sh b k).2)) 13 12 (by show 12 < TM S ps sh b; omega)
      simp at this
      omega
set_option maxRecDepth 20000 in
theorem c_O_chainAt (l : Launch) (E : zE) (M : zM) (S : zS) (hR : RX S M) (hO : ok S) (b y i : Int) (hb : -2147483648 ≤ b ∧ b < 2147483648) (hy : -2147483648 ≤ y ∧ y < 2147483648) (hi : -2147483648 ≤ i ∧ i < 2147483648) : zK l sX E y_O_chainAt b_O_chainAt 6 (some .int) 6 154 [.ref (E.2.2 0), .int (iI b), .int (iI y), .int (iI i)] M (zPi (fun r M2 => r = fChainAt S b y i ∧ RX S M2)) := by
  refine zK.of "OldBeams" rfl (by decide) (Nat.le_of_ble_eq_true rfl) ?_
  intro G hS hE hQ hL C
  subst hE
  subst hL
  show VJ G M 0 [some (.ref (G.2.1.2.2 0)), some (.int (iI b)), some (.int (iI y)), some (.int (iI i)), none, none] []
  have h12 := hO.n
  have hbn := hR.n
  refine r_ald0 C (pc := 0) d_O_chainAt_0 ?_
  refine r_ild1 C (pc := 1) d_O_chainAt_1 ?_
  refine r_ild2 C (pc := 2) d_O_chainAt_2 ?_
  refine call_O_isYear C (pc := 3) hS (c_O_isYear _ _ _ _ (by omega)) k_236 (by decide) (Nat.le_of_ble_eq_true rfl) rfl d_O_chainAt_3 (kkI (fun r3 N3 h3 => ?_))
  obtain ⟨rfl, rfl⟩ := h3
  refine call_O_refusal C (pc := 6) hS (c_O_refusal _ _ _ S (by assumption) hO _ _ (by omega) (by first | exact zb_01 _ | omega)) k_336 (by decide) (Nat.le_of_ble_eq_true rfl) rfl d_O_chainAt_6 (kkI (fun r6 N6 h6 => ?_))
  obtain ⟨rfl, rfl⟩ := h6
  rw [rfS_congr (Q := 0 ≤ y ∧ y ≤ 500) (by first | exact zb_1 _ | decide | omega)]
  have hrr := rfS_rng S b (0 ≤ y ∧ y ≤ 500)
  refine r_ist4 C (pc := 9) rfl d_O_chainAt_9 ?_
  refine r_ild4 C (pc := 11) d_O_chainAt_11 ?_
  refine r_if_eq C (pc := 13) (tgt := 19) (by omega) d_O_chainAt_13 (by decide) (fun c13 => ?_) (fun c13 => ?_)
  · obtain ⟨⟨hb0, hb1⟩, hin, hdn⟩ := rfS_0 c13
    obtain ⟨b, rfl⟩ := Int.eq_ofNat_of_zero_le hb0
    rw [Int.toNat_natCast] at hdn
    have hb : b < S.1 0 := by omega
    have hTM := TM_le (ps := psS S) (sh := knS S y) hO hdn hb
    refine r_ald0 C (pc := 19) d_O_chainAt_19 ?_
    refine r_ild2 C (pc := 20) d_O_chainAt_20 ?_
    refine r_iconst C (pc := 21) d_O_chainAt_21 ?_
    refine call_O_takeShares C (pc := 22) hS (c_O_takeShares _ _ M S hR hO y (by omega) 0 (by decide)) k_494 (by decide) (Nat.le_of_ble_eq_true rfl) rfl d_O_chainAt_22 (kkV (fun N22 h22 => ?_))
    obtain ⟨s1, s2, s3⟩ := h22
    have hRs := RXk hR (kX_ts s2 s3)
    refine r_ald0 C (pc := 25) d_O_chainAt_25 ?_
    refine gX_O_frame C (pc := 26) hS k_201 d_O_chainAt_26 ?_
    refine r_ild1 C (pc := 29) d_O_chainAt_29 ?_
    refine r_ald0 C (pc := 30) d_O_chainAt_30 ?_
    refine gX_O_shares C (pc := 31) hS k_206 d_O_chainAt_31 ?_
    refine r_ald0 C (pc := 34) d_O_chainAt_34 ?_
    refine gX_O_fallOrder C (pc := 35) hS k_207 d_O_chainAt_35 ?_
    refine call_F_tryFall C (pc := 38) hS (c_F_tryFall _ _ N22 S hRs hO b hb hdn (knS S y) (fun c hc => ⟨s1 c hc, by show (0 : Int) ≤ (KS S c y false : Int); omega, by have := KS_le hO hc y false; show (KS S c y false : Int) ≤ 10; omega⟩)) k_547 (by decide) (Nat.le_of_ble_eq_true rfl) rfl d_O_chainAt_38 (kkI (fun r38 N38 h38 => ?_))
    obtain ⟨rfl, t1, t2, w, ew, hw, hwb⟩ := h38
    have hR2 := RXk hRs t1.k
    refine r_ist5 C (pc := 41) rfl d_O_chainAt_41 ?_
    refine r_ild3 C (pc := 43) d_O_chainAt_43 ?_
    refine r_iconst C (pc := 44) d_O_chainAt_44 ?_
    refine r_ild5 C (pc := 45) d_O_chainAt_45 ?_
    refine r_iconst C (pc := 47) d_O_chainAt_47 ?_
    refine r_isub C (pc := 48) d_O_chainAt_48 ?_
    refine call_O_within C (pc := 49) hS (c_O_within _ _ _ _ _ _ (by omega) (by omega) (by omega)) k_227 (by decide) (Nat.le_of_ble_eq_true rfl) rfl d_O_chainAt_49 (kkI (fun r49 N49 h49 => ?_))
    obtain ⟨rfl, rfl⟩ := h49
    refine r_ifeqB C (pc := 52) (tgt := 64) d_O_chainAt_52 (by decide) (fun c52 => ?_) (fun c52 => ?_)
    · refine r_ldc C (pc := 64) (z := (-900009)) k_267 rfl d_O_chainAt_64 ?_
      exact r_iret C (pc := 66) hQ (⟨by unfold fChainAt; rw [if_neg (fun q => q c13), Int.toNat_natCast]; first | rw [if_pos (by omega)] | rw [if_neg (by omega)], hR2⟩) d_O_chainAt_66
    · refine r_ald0 C (pc := 55) d_O_chainAt_55 ?_
      refine gX_O_fallOrder C (pc := 56) hS k_207 d_O_chainAt_56 ?_
      refine r_ild3 C (pc := 59) d_O_chainAt_59 ?_
      refine X_iald C (pc := 60) hS rfl (by decide) (by omega) (by omega) (by decide) d_O_chainAt_60 ?_
      rw [t2 i.toNat (by omega)]
      refine r_goto C (pc := 61) (tgt := 66) d_O_chainAt_61 (by decide) ?_
      exact r_iret C (pc := 66) hQ (⟨by unfold fChainAt; rw [if_neg (fun q => q c13), Int.toNat_natCast]; first | rw [if_pos (by omega)] | rw [if_neg (by omega)], hR2⟩) d_O_chainAt_66
  · refine r_ild4 C (pc := 16) d_O_chainAt_16 ?_
    exact r_iret C (pc := 18) hQ (⟨by unfold fChainAt; rw [if_pos c13], hR⟩) d_O_chainAt_18
theorem FW_rng (S : zS) (sh : Nat → Int) : FW S sh = -900009 ∨ (0 ≤ FW S sh ∧ FW S sh < 256) := by
  unfold FW
  split
  · omega
  · exact Or.inl rfl
set_option maxRecDepth 20000 in
theorem c_O_fewest (l : Launch) (E : zE) (M : zM) (S : zS) (hR : RX S M) (hO : ok S) (y : Int) (hy : -2147483648 ≤ y ∧ y < 2147483648) : zK l sX E y_O_fewest b_O_fewest 3 (some .int) 5 130 [.ref (E.2.2 0), .int (iI y)] M (zPi (fun r M2 => r = fFewest S y ∧ RX S M2)) := by
  refine zK.of "OldBeams" rfl (by decide) (Nat.le_of_ble_eq_true rfl) ?_
  intro G hS hE hQ hL C
  subst hE
  subst hL
  show VJ G M 0 [some (.ref (G.2.1.2.2 0)), some (.int (iI y)), none] []
  have h12 := hO.n
  have hbn := hR.n
  refine r_ild1 C (pc := 0) d_O_fewest_0 ?_
  refine call_O_isYear C (pc := 1) hS (c_O_isYear _ _ _ _ (by omega)) k_236 (by decide) (Nat.le_of_ble_eq_true rfl) rfl d_O_fewest_1 (kkI (fun r1 N1 h1 => ?_))
  obtain ⟨rfl, rfl⟩ := h1
  refine r_ifneB C (pc := 4) (tgt := 10) d_O_fewest_4 (by decide) (fun c4 => ?_) (fun c4 => ?_)
  · refine r_ald0 C (pc := 10) d_O_fewest_10 ?_
    refine r_ild1 C (pc := 11) d_O_fewest_11 ?_
    refine r_iconst C (pc := 12) d_O_fewest_12 ?_
    refine call_O_takeShares C (pc := 13) hS (c_O_takeShares _ _ M S hR hO y (by omega) 0 (by decide)) k_494 (by decide) (Nat.le_of_ble_eq_true rfl) rfl d_O_fewest_13 (kkV (fun N13 h13 => ?_))
    obtain ⟨s1, s2, s3⟩ := h13
    have hRs := RXk hR (kX_ts s2 s3)
    refine r_ald0 C (pc := 16) d_O_fewest_16 ?_
    refine gX_O_frame C (pc := 17) hS k_201 d_O_fewest_17 ?_
    refine r_ald0 C (pc := 20) d_O_fewest_20 ?_
    refine gX_O_shares C (pc := 21) hS k_206 d_O_fewest_21 ?_
    refine call_F_fewestProps C (pc := 24) hS (c_F_fewestProps _ _ N13 S hRs hO (knS S y) (fun c hc => ⟨s1 c hc, by show (0 : Int) ≤ (KS S c y false : Int); omega, by have := KS_le hO hc y false; show (KS S c y false : Int) ≤ 10; omega⟩)) k_577 (by decide) (Nat.le_of_ble_eq_true rfl) rfl d_O_fewest_24 (kkI (fun r24 N24 h24 => ?_))
    obtain ⟨rfl, b1⟩ := h24
    have hR2 := RXb hRs b1
    have hfw := FW_rng S (knS S y)
    refine r_ist2 C (pc := 27) rfl d_O_fewest_27 ?_
    refine r_ild2 C (pc := 28) d_O_fewest_28 ?_
    refine r_ldc C (pc := 29) (z := (-900009)) k_267 rfl d_O_fewest_29 ?_
    refine r_icmp_ne C (pc := 31) (tgt := 39) (by omega) (by omega) d_O_fewest_31 (by decide) (fun c31 => ?_) (fun c31 => ?_)
    · obtain ⟨q, hq⟩ : ∃ q : Nat, FW S (knS S y) = (q : Int) := ⟨(FW S (knS S y)).toNat, by omega⟩
      rw [hq]
      refine r_ild2 C (pc := 39) d_O_fewest_39 ?_
      refine call_In_bitCount C (pc := 40) hS (c_In_bitCount _ _ _ _ (by omega)) k_326 (by decide) (Nat.le_of_ble_eq_true rfl) rfl d_O_fewest_40 (kkI (fun r40 N40 h40 => ?_))
      obtain ⟨rfl, rfl⟩ := h40
      exact r_iret C (pc := 43) hQ (⟨by unfold fFewest; rw [if_neg (show ¬ ¬ (0 ≤ y ∧ y ≤ 500) by omega)]; first | rw [if_pos c31] | (rw [if_neg c31, hq, Int.toNat_natCast]; rfl), hR2⟩) d_O_fewest_43
    · refine r_ldc C (pc := 34) (z := (-900009)) k_267 rfl d_O_fewest_34 ?_
      refine r_goto C (pc := 36) (tgt := 43) d_O_fewest_36 (by decide) ?_
      exact r_iret C (pc := 43) hQ (⟨by unfold fFewest; rw [if_neg (show ¬ ¬ (0 ≤ y ∧ y ≤ 500) by omega)]; first | rw [if_pos c31] | (rw [if_neg c31, hq, Int.toNat_natCast]; rfl), hR2⟩) d_O_fewest_43
  · refine r_ldc C (pc := 7) (z := (-900002)) k_231 rfl d_O_fewest_7 ?_
    exact r_iret C (pc := 9) hQ (⟨by unfold fFewest; rw [if_pos (by omega)], hR⟩) d_O_fewest_9
set_option maxRecDepth 20000 in
theorem l_O_needed_43 {G : zG} (C : zC G b_O_needed "OldBeams" (some .int) 6 5 130) (hS : G.1 = sX) (M : zM) (S : zS) (hR : RX S M) (hO : ok S) (y i : Int) (hy : 0 ≤ y ∧ y ≤ 500) (hi : -2147483648 ≤ i ∧ i < 2147483648) (q : Nat) (hq : FW S (knS S y) = (q : Int)) (hq256 : q < 256) (N : zM) (hR2 : RX S N) (hQ : G.2.2.1 = zPi (fun r M2 => r = fNeeded S y i ∧ RX S M2)) : ∀ (n : Nat) (p : Nat), (p ≤ 8) → (∀ j, j < p → (q.testBit (7 - j) && decide ((dcnt (fun r => q.testBit (7 - r)) j : Int) = i)) = false) → (8 - p < n) → VJ G N 43 [some (.ref (zad G 0)), some (.int (iI y)), some (.int (iI i)), some (.int (iI (q : Int))), some (.int (iI (dcnt (fun r => q.testBit (7 - r)) p : Int))), some (.int (iI (p : Int)))] [] := by
  intro n
  induction n with
  | zero =>
    intro p hp hno hn
    exact absurd hn (by omega)
  | succ n ih =>
    intro p hp hno hn
    have hdl := dcnt_le (fun r => q.testBit (7 - r)) p
    have es := dcnt_succ (fun r => q.testBit (7 - r)) p
    refine r_ild5 C (pc := 43) d_O_needed_43 ?_
    refine r_bipush C (pc := 45) (n := 8) rfl d_O_needed_45 ?_
    refine r_icmp_ge C (pc := 47) (tgt := 81) (by omega) (by omega) d_O_needed_47 (by decide) (fun c47 => ?_) (fun c47 => ?_)
    · refine r_ldc C (pc := 81) (z := (-900009)) k_267 rfl d_O_needed_81 ?_
      exact r_iret C (pc := 83) hQ (⟨by unfold fNeeded; rw [if_neg (show ¬ ¬ (0 ≤ y ∧ y ≤ 500) by omega), if_neg (by omega), hq, Int.toNat_natCast, show ndN q i = 8 from fsN_none 8 (fun j hj => hno j (by omega)), if_neg (by omega)], hR2⟩) d_O_needed_83
    · refine r_ild3 C (pc := 50) d_O_needed_50 ?_
      refine r_ild5 C (pc := 51) d_O_needed_51 ?_
      refine call_F_propBit C (pc := 53) hS (c_F_propBit _ _ _ _ (by omega)) k_572 (by decide) (Nat.le_of_ble_eq_true rfl) rfl d_O_needed_53 (kkI (fun r53 N53 h53 => ?_))
      obtain ⟨rfl, rfl⟩ := h53
      refine r_iand C (pc := 56) (bi_and _ _) d_O_needed_56 ?_
      have hle : q &&& 2 ^ (7 - p) ≤ q := Nat.and_le_left
      have htb := tb_and (q := q) (k := 7 - p)
      refine r_if_ne C (pc := 57) (tgt := 63) (by omega) d_O_needed_57 (by decide) (fun c57 => ?_) (fun c57 => ?_)
      · have ht : q.testBit (7 - p) = true := Classical.not_not.mp (fun z => c57 (by have := htb.mpr z; omega))
        refine r_ild4 C (pc := 63) d_O_needed_63 ?_
        refine r_ild2 C (pc := 65) d_O_needed_65 ?_
        refine r_icmp_ne C (pc := 66) (tgt := 72) (by omega) (by omega) d_O_needed_66 (by decide) (fun c66 => ?_) (fun c66 => ?_)
        · refine r_iinc4 C (pc := 72) rfl d_O_needed_72 ?_
          refine r_iinc5 C (pc := 75) rfl d_O_needed_75 ?_
          refine r_goto C (pc := 78) (tgt := 43) d_O_needed_78 (by decide) ?_
          refine r_weak ?_ (ih (p + 1) (by omega) (fun j hj => by
            rcases Nat.lt_or_ge j p with w | w
            · exact hno j w
            · rw [show j = p by omega, ht]; first | rfl | (simp only [Bool.true_and, decide_eq_false_iff_not]; exact c66)) (by omega))
          exact ⟨Or.inr rfl, Or.inr rfl, Or.inr rfl, Or.inr rfl, Or.inr (by rw [es, ht]; rfl), Or.inr rfl, trivial⟩
        · refine r_ild5 C (pc := 69) d_O_needed_69 ?_
          exact r_iret C (pc := 71) hQ (⟨by unfold fNeeded; rw [if_neg (show ¬ ¬ (0 ≤ y ∧ y ≤ 500) by omega), if_neg (by omega), hq, Int.toNat_natCast, show ndN q i = p from fsN_at (by rw [ht]; simp only [Bool.true_and, decide_eq_true_eq]; exact c66) hno 8 (by omega), if_pos (by omega)], hR2⟩) d_O_needed_71
      · have ht : q.testBit (7 - p) = false := Bool.eq_false_iff.mpr (htb.mp (by omega))
        refine r_goto C (pc := 60) (tgt := 75) d_O_needed_60 (by decide) ?_
        refine r_iinc5 C (pc := 75) rfl d_O_needed_75 ?_
        refine r_goto C (pc := 78) (tgt := 43) d_O_needed_78 (by decide) ?_
        refine r_weak ?_ (ih (p + 1) (by omega) (fun j hj => by
          rcases Nat.lt_or_ge j p with w | w
          · exact hno j w
          · rw [show j = p by omega, ht]; first | rfl | (simp only [Bool.true_and, decide_eq_false_iff_not]; exact c66)) (by omega))
        exact ⟨Or.inr rfl, Or.inr rfl, Or.inr rfl, Or.inr rfl, Or.inr (by rw [es, ht]; rfl), Or.inr rfl, trivial⟩
set_option maxRecDepth 20000 in
theorem c_O_needed (l : Launch) (E : zE) (M : zM) (S : zS) (hR : RX S M) (hO : ok S) (y i : Int) (hy : -2147483648 ≤ y ∧ y < 2147483648) (hi : -2147483648 ≤ i ∧ i < 2147483648) : zK l sX E y_O_needed b_O_needed 6 (some .int) 5 130 [.ref (E.2.2 0), .int (iI y), .int (iI i)] M (zPi (fun r M2 => r = fNeeded S y i ∧ RX S M2)) := by
  refine zK.of "OldBeams" rfl (by decide) (Nat.le_of_ble_eq_true rfl) ?_
  intro G hS hE hQ hL C
  subst hE
  subst hL
  show VJ G M 0 [some (.ref (G.2.1.2.2 0)), some (.int (iI y)), some (.int (iI i)), none, none, none] []
  have h12 := hO.n
  have hbn := hR.n
  refine r_ild1 C (pc := 0) d_O_needed_0 ?_
  refine call_O_isYear C (pc := 1) hS (c_O_isYear _ _ _ _ (by omega)) k_236 (by decide) (Nat.le_of_ble_eq_true rfl) rfl d_O_needed_1 (kkI (fun r1 N1 h1 => ?_))
  obtain ⟨rfl, rfl⟩ := h1
  refine r_ifneB C (pc := 4) (tgt := 10) d_O_needed_4 (by decide) (fun c4 => ?_) (fun c4 => ?_)
  · refine r_ald0 C (pc := 10) d_O_needed_10 ?_
    refine r_ild1 C (pc := 11) d_O_needed_11 ?_
    refine r_iconst C (pc := 12) d_O_needed_12 ?_
    refine call_O_takeShares C (pc := 13) hS (c_O_takeShares _ _ M S hR hO y (by omega) 0 (by decide)) k_494 (by decide) (Nat.le_of_ble_eq_true rfl) rfl d_O_needed_13 (kkV (fun N13 h13 => ?_))
    obtain ⟨s1, s2, s3⟩ := h13
    have hRs := RXk hR (kX_ts s2 s3)
    refine r_ald0 C (pc := 16) d_O_needed_16 ?_
    refine gX_O_frame C (pc := 17) hS k_201 d_O_needed_17 ?_
    refine r_ald0 C (pc := 20) d_O_needed_20 ?_
    refine gX_O_shares C (pc := 21) hS k_206 d_O_needed_21 ?_
    refine call_F_fewestProps C (pc := 24) hS (c_F_fewestProps _ _ N13 S hRs hO (knS S y) (fun c hc => ⟨s1 c hc, by show (0 : Int) ≤ (KS S c y false : Int); omega, by have := KS_le hO hc y false; show (KS S c y false : Int) ≤ 10; omega⟩)) k_577 (by decide) (Nat.le_of_ble_eq_true rfl) rfl d_O_needed_24 (kkI (fun r24 N24 h24 => ?_))
    obtain ⟨rfl, b1⟩ := h24
    have hR2 := RXb hRs b1
    have hfw := FW_rng S (knS S y)
    refine r_ist3 C (pc := 27) rfl d_O_needed_27 ?_
    refine r_ild3 C (pc := 28) d_O_needed_28 ?_
    refine r_ldc C (pc := 29) (z := (-900009)) k_267 rfl d_O_needed_29 ?_
    refine r_icmp_ne C (pc := 31) (tgt := 37) (by omega) (by omega) d_O_needed_31 (by decide) (fun c31 => ?_) (fun c31 => ?_)
    · obtain ⟨q, hq⟩ : ∃ q : Nat, FW S (knS S y) = (q : Int) := ⟨(FW S (knS S y)).toNat, by omega⟩
      rw [hq]
      refine r_iconst C (pc := 37) d_O_needed_37 ?_
      refine r_ist4 C (pc := 38) rfl d_O_needed_38 ?_
      refine r_iconst C (pc := 40) d_O_needed_40 ?_
      refine r_ist5 C (pc := 41) rfl d_O_needed_41 ?_
      exact l_O_needed_43 C hS M S hR hO y i (by omega) hi q hq (by omega) N24 hR2 hQ 9 0 (by omega) (fun j hj => absurd hj (Nat.not_lt_zero j)) (by omega)
    · refine r_ldc C (pc := 34) (z := (-900009)) k_267 rfl d_O_needed_34 ?_
      exact r_iret C (pc := 36) hQ (⟨by unfold fNeeded; rw [if_neg (show ¬ ¬ (0 ≤ y ∧ y ≤ 500) by omega), if_pos c31], hR2⟩) d_O_needed_36
  · refine r_ldc C (pc := 7) (z := (-900002)) k_231 rfl d_O_needed_7 ?_
    exact r_iret C (pc := 9) hQ (⟨by unfold fNeeded; rw [if_pos (by omega)], hR⟩) d_O_needed_9
theorem ps_cnt {S : zS} {m : Nat} (hO : ok S) (hm : m < 256) (h : ∀ p, p < 8 → m.testBit (7 - p) = psS S p) : dcnt (fun i => m.testBit i) 12 = dcnt (psS S) 8 := by
  have hb : ∀ i, 8 ≤ i → m.testBit i = false := fun i hi => Nat.testBit_lt_two_pow (Nat.lt_of_lt_of_le hm (Nat.pow_le_pow_right (n := 2) (by decide) hi))
  rw [show 12 = 8 + 4 by rfl, dcnt_ext 4 (fun j h1 _ => hb j h1)]
  have e : ∀ p, p < 8 → m.testBit p = psS S (7 - p) := fun p hp => by rw [← h (7 - p) (by omega), show 7 - (7 - p) = p by omega]
  simp only [dcnt]
  rw [show m.testBit 0 = psS S 7 from e 0 (by decide), show m.testBit 1 = psS S 6 from e 1 (by decide), show m.testBit 2 = psS S 5 from e 2 (by decide), show m.testBit 3 = psS S 4 from e 3 (by decide), show m.testBit 4 = psS S 3 from e 4 (by decide), show m.testBit 5 = psS S 2 from e 5 (by decide), show m.testBit 6 = psS S 1 from e 6 (by decide), show m.testBit 7 = psS S 0 from e 7 (by decide)]
  omega
set_option maxRecDepth 20000 in
theorem c_O_count (l : Launch) (E : zE) (M : zM) (S : zS) (hR : RX S M) (hO : ok S) (q : Int) (hq : -2147483648 ≤ q ∧ q < 2147483648) : zK l sX E y_O_count b_O_count 2 (some .int) 3 66 [.ref (E.2.2 0), .int (iI q)] M (zPi (fun r M2 => r = fCount S q ∧ RX S M2)) := by
  refine zK.of "OldBeams" rfl (by decide) (Nat.le_of_ble_eq_true rfl) ?_
  intro G hS hE hQ hL C
  subst hE
  subst hL
  show VJ G M 0 [some (.ref (G.2.1.2.2 0)), some (.int (iI q))] []
  have h12 := hO.n
  have hbn := hR.n
  obtain ⟨m, em, hm, hmb⟩ := hR.2.2.2.2.1
  obtain ⟨m2, em2, hm2, hmb2⟩ := hR.2.2.2.2.2.2.2.1
  refine r_ild1 C (pc := 0) d_O_count_0 ?_
  rcases (show q = 0 ∨ q = 1 ∨ q = 2 ∨ q = 3 ∨ q = 4 ∨ q = 5 ∨ (q < 0 ∨ 5 < q) by omega) with e1 | e1 | e1 | e1 | e1 | e1 | e1
  · rw [e1]
    refine r_tabIn C (pc := 1) (tgt := 40) (by decide) d_O_count_1 (by decide) (by decide) rfl (by decide) ?_
    refine r_ald0 C (pc := 40) d_O_count_40 ?_
    refine gX_O_frame C (pc := 41) hS k_201 d_O_count_41 ?_
    refine gX_F_beamCount C (pc := 44) hS k_98 d_O_count_44 ?_
    rw [hbn]
    exact r_iret C (pc := 47) hQ (⟨by rw [e1]; rfl, hR⟩) d_O_count_47
  · rw [e1]
    refine r_tabIn C (pc := 1) (tgt := 48) (by decide) d_O_count_1 (by decide) (by decide) rfl (by decide) ?_
    refine r_ald0 C (pc := 48) d_O_count_48 ?_
    refine gX_O_frame C (pc := 49) hS k_201 d_O_count_49 ?_
    refine call_F_loadsOn C (pc := 52) hS (c_F_loadsOn _ _ M S hR hO) k_626 (by decide) (Nat.le_of_ble_eq_true rfl) rfl d_O_count_52 (kkI (fun r52 N52 h52 => ?_))
    obtain ⟨rfl, rfl⟩ := h52
    exact r_iret C (pc := 55) hQ (⟨by rw [e1]; rfl, hR⟩) d_O_count_55
  · rw [e1]
    refine r_tabIn C (pc := 1) (tgt := 56) (by decide) d_O_count_1 (by decide) (by decide) rfl (by decide) ?_
    refine r_ald0 C (pc := 56) d_O_count_56 ?_
    refine gX_O_looks C (pc := 57) hS k_202 d_O_count_57 ?_
    refine gX_K_lookCount C (pc := 60) hS k_165 d_O_count_60 ?_
    rw [hR.1.2.2.1]
    exact r_iret C (pc := 63) hQ (⟨by rw [e1]; rfl, hR⟩) d_O_count_63
  · rw [e1]
    refine r_tabIn C (pc := 1) (tgt := 64) (by decide) d_O_count_1 (by decide) (by decide) rfl (by decide) ?_
    refine r_ald0 C (pc := 64) d_O_count_64 ?_
    refine gX_O_frame C (pc := 65) hS k_201 d_O_count_65 ?_
    refine gX_F_propCount C (pc := 68) hS k_113 d_O_count_68 ?_
    rw [hR.1.2.2.2]
    exact r_iret C (pc := 71) hQ (⟨by rw [e1]; rfl, hR⟩) d_O_count_71
  · rw [e1]
    refine r_tabIn C (pc := 1) (tgt := 72) (by decide) d_O_count_1 (by decide) (by decide) rfl (by decide) ?_
    refine r_ald0 C (pc := 72) d_O_count_72 ?_
    refine gX_O_frame C (pc := 73) hS k_201 d_O_count_73 ?_
    refine gX_F_setProps C (pc := 76) hS k_115 d_O_count_76 ?_
    rw [em2]
    refine call_In_bitCount C (pc := 79) hS (c_In_bitCount _ _ _ _ (by omega)) k_326 (by decide) (Nat.le_of_ble_eq_true rfl) rfl d_O_count_79 (kkI (fun r79 N79 h79 => ?_))
    obtain ⟨rfl, rfl⟩ := h79
    exact r_iret C (pc := 82) hQ (⟨by rw [e1, ps_cnt hO hm2 hmb2]; rfl, hR⟩) d_O_count_82
  · rw [e1]
    refine r_tabIn C (pc := 1) (tgt := 83) (by decide) d_O_count_1 (by decide) (by decide) rfl (by decide) ?_
    refine r_ald0 C (pc := 83) d_O_count_83 ?_
    refine gX_O_frame C (pc := 84) hS k_201 d_O_count_84 ?_
    refine r_ald0 C (pc := 87) d_O_count_87 ?_
    refine gX_O_frame C (pc := 88) hS k_201 d_O_count_88 ?_
    refine gX_F_fallen C (pc := 91) hS k_99 d_O_count_91 ?_
    rw [em]
    refine call_F_downBy C (pc := 94) hS (c_F_downBy _ _ _ S (by assumption) hO _ (by omega)) k_325 (by decide) (Nat.le_of_ble_eq_true rfl) rfl d_O_count_94 (kkI (fun r94 N94 h94 => ?_))
    obtain ⟨⟨w, rfl, hw, hwb⟩, rfl⟩ := h94
    refine call_In_bitCount C (pc := 97) hS (c_In_bitCount _ _ _ _ (by omega)) k_326 (by decide) (Nat.le_of_ble_eq_true rfl) rfl d_O_count_97 (kkI (fun r97 N97 h97 => ?_))
    obtain ⟨rfl, rfl⟩ := h97
    exact r_iret C (pc := 100) hQ (⟨by rw [e1, dw_cnt hO hmb hwb]; rfl, hR⟩) d_O_count_100
  · refine r_tabOut C (pc := 1) (tgt := 101) (by omega) d_O_count_1 e1 (by decide) ?_
    refine r_ldc C (pc := 101) (z := (-900002)) k_231 rfl d_O_count_101 ?_
    exact r_iret C (pc := 103) hQ (⟨by unfold fCount; rw [if_neg (by omega), if_neg (by omega), if_neg (by omega), if_neg (by omega), if_neg (by omega), if_neg (by omega)], hR⟩) d_O_count_103
set_option maxRecDepth 20000 in
theorem c_O_about (l : Launch) (E : zE) (M : zM) (S : zS) (hR : RX S M) (hO : ok S) (b q : Int) (hb : -2147483648 ≤ b ∧ b < 2147483648) (hq : -2147483648 ≤ q ∧ q < 2147483648) : zK l sX E y_O_about b_O_about 4 (some .int) 4 87 [.ref (E.2.2 0), .int (iI b), .int (iI q)] M (zPi (fun r M2 => r = fAbout S b q ∧ RX S M2)) := by
  refine zK.of "OldBeams" rfl (by decide) (Nat.le_of_ble_eq_true rfl) ?_
  intro G hS hE hQ hL C
  subst hE
  subst hL
  show VJ G M 0 [some (.ref (G.2.1.2.2 0)), some (.int (iI b)), some (.int (iI q)), none] []
  have h12 := hO.n
  have hbn := hR.n
  refine r_ald0 C (pc := 0) d_O_about_0 ?_
  refine gX_O_frame C (pc := 1) hS k_201 d_O_about_1 ?_
  refine r_ild1 C (pc := 4) d_O_about_4 ?_
  refine call_F_hasBeam C (pc := 5) hS (c_F_hasBeam _ _ M b (by omega) (by omega)) k_257 (by decide) (Nat.le_of_ble_eq_true rfl) rfl d_O_about_5 (kkI (fun r5 N5 h5 => ?_))
  obtain ⟨rfl, rfl⟩ := h5
  rw [hbn]
  refine r_ifneB C (pc := 8) (tgt := 14) d_O_about_8 (by decide) (fun c8 => ?_) (fun c8 => ?_)
  · obtain ⟨b, rfl⟩ := Int.eq_ofNat_of_zero_le c8.1
    have hb : b < S.1 0 := by omega
    obtain ⟨⟨-, e1, -⟩, hrs⟩ := hR.2.2.1 b hb
    have hwt := hR.2.2.2.1 b (by omega)
    have hwo := (hO.2.2.2.1 b (by omega)).1
    refine r_ald0 C (pc := 14) d_O_about_14 ?_
    refine gX_O_frame C (pc := 15) hS k_201 d_O_about_15 ?_
    refine gX_F_beams C (pc := 18) hS k_96 d_O_about_18 ?_
    refine r_ild1 C (pc := 21) d_O_about_21 ?_
    refine X_beamsN C (pc := 22) hS (b) (by omega) (by omega) d_O_about_22 ?_
    refine r_ast3 C (pc := 23) rfl d_O_about_23 ?_
    refine r_ild2 C (pc := 24) d_O_about_24 ?_
    rcases (show q = 0 ∨ q = 1 ∨ q = 2 ∨ q = 3 ∨ q = 4 ∨ q = 5 ∨ q = 6 ∨ q = 7 ∨ (q < 0 ∨ 7 < q) by omega) with e25 | e25 | e25 | e25 | e25 | e25 | e25 | e25 | e25
    · rw [e25]
      refine r_tabIn C (pc := 25) (tgt := 72) (by decide) d_O_about_25 (by decide) (by decide) rfl (by decide) ?_
      refine r_ald3 C (pc := 72) d_O_about_72 ?_
      refine gX_B_length C (pc := 73) hS (by omega) k_37 d_O_about_73 ?_
      exact r_iret C (pc := 76) hQ (⟨by rw [e25, e1]; unfold fAbout; rw [if_neg (by omega), Int.toNat_natCast]; rfl, hR⟩) d_O_about_76
    · rw [e25]
      refine r_tabIn C (pc := 25) (tgt := 77) (by decide) d_O_about_25 (by decide) (by decide) rfl (by decide) ?_
      refine r_ald3 C (pc := 77) d_O_about_77 ?_
      refine gX_B_place C (pc := 78) hS (by omega) k_45 d_O_about_78 ?_
      refine r_iconst C (pc := 81) d_O_about_81 ?_
      refine X_ialdN C (pc := 82) hS (0) (by omega) (shB1 _) (by omega) (by omega) (by decide) d_O_about_82 ?_
      exact r_iret C (pc := 83) hQ (⟨by rw [e25, (hrs 0 (by omega)).1]; unfold fAbout; rw [if_neg (by omega), Int.toNat_natCast]; rfl, hR⟩) d_O_about_83
    · rw [e25]
      refine r_tabIn C (pc := 25) (tgt := 84) (by decide) d_O_about_25 (by decide) (by decide) rfl (by decide) ?_
      refine r_ald3 C (pc := 84) d_O_about_84 ?_
      refine gX_B_place C (pc := 85) hS (by omega) k_45 d_O_about_85 ?_
      refine r_iconst C (pc := 88) d_O_about_88 ?_
      refine X_ialdN C (pc := 89) hS (1) (by omega) (shB1 _) (by omega) (by omega) (by decide) d_O_about_89 ?_
      exact r_iret C (pc := 90) hQ (⟨by rw [e25, (hrs 1 (by omega)).1]; unfold fAbout; rw [if_neg (by omega), Int.toNat_natCast]; rfl, hR⟩) d_O_about_90
    · rw [e25]
      refine r_tabIn C (pc := 25) (tgt := 91) (by decide) d_O_about_25 (by decide) (by decide) rfl (by decide) ?_
      refine r_ald3 C (pc := 91) d_O_about_91 ?_
      refine gX_B_on C (pc := 92) hS (by omega) k_47 d_O_about_92 ?_
      refine r_iconst C (pc := 95) d_O_about_95 ?_
      refine X_ialdN C (pc := 96) hS (0) (by omega) (shB2 _) (by omega) (by omega) (by decide) d_O_about_96 ?_
      exact r_iret C (pc := 97) hQ (⟨by rw [e25, (hrs 0 (by omega)).2.1]; unfold fAbout; rw [if_neg (by omega), Int.toNat_natCast]; rfl, hR⟩) d_O_about_97
    · rw [e25]
      refine r_tabIn C (pc := 25) (tgt := 98) (by decide) d_O_about_25 (by decide) (by decide) rfl (by decide) ?_
      refine r_ald3 C (pc := 98) d_O_about_98 ?_
      refine gX_B_on C (pc := 99) hS (by omega) k_47 d_O_about_99 ?_
      refine r_iconst C (pc := 102) d_O_about_102 ?_
      refine X_ialdN C (pc := 103) hS (1) (by omega) (shB2 _) (by omega) (by omega) (by decide) d_O_about_103 ?_
      exact r_iret C (pc := 104) hQ (⟨by rw [e25, (hrs 1 (by omega)).2.1]; unfold fAbout; rw [if_neg (by omega), Int.toNat_natCast]; rfl, hR⟩) d_O_about_104
    · rw [e25]
      refine r_tabIn C (pc := 25) (tgt := 105) (by decide) d_O_about_25 (by decide) (by decide) rfl (by decide) ?_
      refine r_ald0 C (pc := 105) d_O_about_105 ?_
      refine gX_O_frame C (pc := 106) hS k_201 d_O_about_106 ?_
      refine r_ild1 C (pc := 109) d_O_about_109 ?_
      refine call_F_wholeStrength C (pc := 110) hS (c_F_wholeStrength _ _ _ S (by assumption) hO _ (by assumption)) k_278 (by decide) (Nat.le_of_ble_eq_true rfl) rfl d_O_about_110 (kkI (fun r110 N110 h110 => ?_))
      obtain ⟨rfl, rfl⟩ := h110
      exact r_iret C (pc := 113) hQ (⟨by rw [e25]; unfold fAbout; rw [if_neg (by omega), Int.toNat_natCast]; rfl, hR⟩) d_O_about_113
    · rw [e25]
      refine r_tabIn C (pc := 25) (tgt := 114) (by decide) d_O_about_25 (by decide) (by decide) rfl (by decide) ?_
      refine r_ald3 C (pc := 114) d_O_about_114 ?_
      refine gX_B_isWet C (pc := 115) hS (by omega) k_42 d_O_about_115 ?_
      refine call_O_asNumber C (pc := 118) hS (c_O_asNumber _ _ _ _ (by rw [hwt.1]; exact hwo)) k_282 (by decide) (Nat.le_of_ble_eq_true rfl) rfl d_O_about_118 (kkI (fun r118 N118 h118 => ?_))
      obtain ⟨rfl, rfl⟩ := h118
      exact r_iret C (pc := 121) hQ (⟨by rw [e25, hwt.1]; unfold fAbout; rw [if_neg (by omega), Int.toNat_natCast]; rfl, hR⟩) d_O_about_121
    · rw [e25]
      refine r_tabIn C (pc := 25) (tgt := 122) (by decide) d_O_about_25 (by decide) (by decide) rfl (by decide) ?_
      refine r_ald0 C (pc := 122) d_O_about_122 ?_
      refine gX_O_frame C (pc := 123) hS k_201 d_O_about_123 ?_
      refine r_ild1 C (pc := 126) d_O_about_126 ?_
      refine call_F_isDown C (pc := 127) hS (c_F_isDown _ _ _ S (by assumption) hO _ (by omega)) k_285 (by decide) (Nat.le_of_ble_eq_true rfl) rfl d_O_about_127 (kkI (fun r127 N127 h127 => ?_))
      obtain ⟨rfl, rfl⟩ := h127
      refine call_O_asNumber C (pc := 130) hS (c_O_asNumber _ _ _ _ (by first | exact zb_01 _ | omega)) k_282 (by decide) (Nat.le_of_ble_eq_true rfl) rfl d_O_about_130 (kkI (fun r130 N130 h130 => ?_))
      obtain ⟨rfl, rfl⟩ := h130
      exact r_iret C (pc := 133) hQ (⟨by rw [e25]; unfold fAbout; rw [if_neg (by omega), Int.toNat_natCast]; rfl, hR⟩) d_O_about_133
    · refine r_tabOut C (pc := 25) (tgt := 134) (by omega) d_O_about_25 e25 (by decide) ?_
      refine r_ldc C (pc := 134) (z := (-900002)) k_231 rfl d_O_about_134 ?_
      exact r_iret C (pc := 136) hQ (⟨by unfold fAbout; rw [if_neg (by omega), if_neg (by omega), if_neg (by omega), if_neg (by omega), if_neg (by omega), if_neg (by omega), if_neg (by omega), if_neg (by omega), if_neg (by omega)], hR⟩) d_O_about_136
  · refine r_ldc C (pc := 11) (z := (-900001)) k_230 rfl d_O_about_11 ?_
    exact r_iret C (pc := 13) hQ (⟨by unfold fAbout; rw [if_pos c8], hR⟩) d_O_about_13
theorem bfA_n (S : zS) (y : Int) (c : Nat) : bfA S y (c : Int) = wor S (c / 4) y (c % 4) := by
  unfold bfA
  rw [if_neg (by omega), Int.toNat_natCast]
theorem bfB_n (S : zS) (y : Int) (c : Nat) : bfB S y (c : Int) = 9 * allO S (c / 4) y := by
  unfold bfB
  rw [if_neg (by omega), Int.toNat_natCast]
theorem wor_le {S : zS} (hO : ok S) (b : Nat) (y : Int) (k : Nat) : wor S b y k ≤ 89991 * allO S b y := by
  have := co_le hO (allO S b y) (lost S b y)
  unfold wor
  omega
theorem bf_bnd {S : zS} (hO : ok S) (y : Int) {c : Int} (h : c = -1 ∨ (0 ≤ c ∧ c.toNat / 4 < S.1 0)) : bfA S y c < 2 ^ 60 ∧ 0 < bfB S y c ∧ bfB S y c < 2 ^ 60 := by
  unfold bfA bfB
  by_cases e : c = -1
  · rw [if_pos e, if_pos e]; decide
  · rw [if_neg e, if_neg e]
    have h2 := all_bnd hO (b := c.toNat / 4) (by omega) y
    have h3 := wor_le hO (c.toNat / 4) y (c.toNat % 4)
    omega
theorem blA_n (i t : Nat) (ht : t < 4) : blA ((4 * i + t : Nat) : Int) = 10 * (i : Int) + (t : Int) := by
  unfold blA
  rw [if_neg (by omega)]
  omega
set_option maxRecDepth 20000 in
theorem l_O_bestLook_69 {G : zG} (C : zC G b_O_bestLook "OldBeams" (some .int) 5 5 125) (hS : G.1 = sX) (M : zM) (S : zS) (hR : RX S M) (hO : ok S) (y : Int) (hy : 0 ≤ y ∧ y ≤ 500) (N0 : zM) (hR0 : RX S N0) (hj : ∀ b, b < S.1 0 → dA S (flS S) b = false → hJ S (psS S) (dA S (flS S)) N0 b) (i : Nat) (hi : i < S.1 0) (hdn : dA S (flS S) i = false) (K : ∀ N2 : zM, N2.1 = N0.1 → (∀ a, 45 ≤ a → N2.2 a = N0.2 a) → N2.2 4 0 = lN (bfA S y (blN S y (4 * (i + 1))) / Nat.gcd (bfA S y (blN S y (4 * (i + 1)))) (bfB S y (blN S y (4 * (i + 1))))) → N2.2 4 1 = lN (bfB S y (blN S y (4 * (i + 1))) / Nat.gcd (bfA S y (blN S y (4 * (i + 1)))) (bfB S y (blN S y (4 * (i + 1))))) → VJ G N2 121 [some (.ref (zad G 0)), some (.int (iI y)), some (.int (iI (blA (blN S y (4 * (i + 1)))))), some (.int (iI (i : Int))), none] []) (hQ : G.2.2.1 = zPi (fun r M2 => r = fBest S y ∧ RX S M2)) : ∀ (n : Nat) (t : Nat) (N : zM), (t ≤ 4) → (N.1 = N0.1) → (∀ a, 45 ≤ a → N.2 a = N0.2 a) → (∀ s, s < 11 → N.2 43 s = lN (OD S i y s)) → (N.2 4 0 = lN (bfA S y (blN S y (4 * i + t)) / Nat.gcd (bfA S y (blN S y (4 * i + t))) (bfB S y (blN S y (4 * i + t))))) → (N.2 4 1 = lN (bfB S y (blN S y (4 * i + t)) / Nat.gcd (bfA S y (blN S y (4 * i + t))) (bfB S y (blN S y (4 * i + t))))) → (4 - t < n) → VJ G N 69 [some (.ref (zad G 0)), some (.int (iI y)), some (.int (iI (blA (blN S y (4 * i + t))))), some (.int (iI (i : Int))), some (.int (iI (t : Int)))] [] := by
  intro n
  induction n with
  | zero =>
    intro t N ht hN1 hN2 ho hb1 hb2 hn
    exact absurd hn (by omega)
  | succ n ih =>
    intro t N ht hN1 hN2 ho hb1 hb2 hn
    have h12 := hO.n
    have hRN := RXk hR0 (kX_4 hN1 hN2)
    have hwr := blN_rng S y (4 * i + t)
    have hbb := bf_bnd hO y (c := blN S y (4 * i + t)) (by omega)
    have hal := all_bnd hO hi y
    have hwl := wor_le hO i y t
    refine r_ild4 C (pc := 69) d_O_bestLook_69 ?_
    refine r_iconst C (pc := 71) d_O_bestLook_71 ?_
    refine r_icmp_ge C (pc := 72) (tgt := 121) (by omega) (by omega) d_O_bestLook_72 (by decide) (fun c72 => ?_) (fun c72 => ?_)
    · have et : t = 4 := by omega
      subst et
      refine r_weak ?_ (K N hN1 hN2 hb1 hb2)
      exact ⟨Or.inr rfl, Or.inr rfl, Or.inr rfl, Or.inr rfl, Or.inl rfl, trivial⟩
    · refine r_ald0 C (pc := 75) d_O_bestLook_75 ?_
      refine r_ild3 C (pc := 76) d_O_bestLook_76 ?_
      refine r_ild4 C (pc := 77) d_O_bestLook_77 ?_
      refine call_O_putWorth C (pc := 79) hS (c_O_putWorth _ _ N S hRN hO i hi y t (by omega) (hJ_45 hN1 hN2 (hj i hi hdn)) ho) k_613 (by decide) (Nat.le_of_ble_eq_true rfl) rfl d_O_bestLook_79 (kkV (fun N79 h79 => ?_))
      have ht4 : t < 4 := by omega
      have es := blN_up S y (c := 4 * i + t) (by rw [show (4 * i + t) / 4 = i by omega]; exact hdn)
      rw [show (4 * i + t) / 4 = i by omega, show (4 * i + t) % 4 = t by omega] at es
      have hrx := redx (a := bfA S y (blN S y (4 * i + t))) (c := wor S i y t) (b := bfB S y (blN S y (4 * i + t))) (d := 9 * allO S i y) hbb.2.1 (by omega)
      have e3 : N79.1 = N0.1 := by rw [← h79]; exact hN1
      have e4 : ∀ a, 45 ≤ a → N79.2 a = N0.2 a := fun a q => by rw [← h79, zJ_fn (by omega), zJ_fn (by omega)]; exact hN2 a q
      have e5 : N79.2 3 0 = lN (wor S i y t / Nat.gcd (wor S i y t) (9 * allO S i y)) := by rw [← h79, zJ_row (by decide), zJ_same]
      have e6 : N79.2 3 1 = lN (9 * allO S i y / Nat.gcd (wor S i y t) (9 * allO S i y)) := by rw [← h79, zJ_same]
      have e7 : ∀ a, a ≠ 3 → N79.2 a = N.2 a := fun a q => by rw [← h79, zJ_fn q, zJ_fn q]
      refine r_ald0 C (pc := 82) d_O_bestLook_82 ?_
      refine gX_O_best C (pc := 83) hS k_204 d_O_bestLook_83 ?_
      refine r_ald0 C (pc := 86) d_O_bestLook_86 ?_
      refine gX_O_fraction C (pc := 87) hS k_203 d_O_bestLook_87 ?_
      refine call_Q_isLessThan C (pc := 90) hS (by decide) (c_Q_isLessThan _ _ N79 4 3 (by decide) (by decide) _ _ _ _ (lt63 (a := bfA S y (blN S y (4 * i + t))) (by omega) _) (lt63 (a := bfB S y (blN S y (4 * i + t))) (by omega) _) (lt63 (a := wor S i y t) (by omega) _) (lt63 (a := 9 * allO S i y) (by omega) _) (red_pos hbb.2.1) (red_pos (by omega)) (by rw [e7 4 (by decide)]; exact hb1) (by rw [e7 4 (by decide)]; exact hb2) e5 e6) k_535 (by decide) (Nat.le_of_ble_eq_true rfl) rfl d_O_bestLook_90 (kkI (fun r90 N90 h90 => ?_))
      obtain ⟨rfl, rfl⟩ := h90
      refine r_ifeqB C (pc := 93) (tgt := 115) d_O_bestLook_93 (by decide) (fun c93 => ?_) (fun c93 => ?_)
      · rw [if_neg (fun z => c93 (hrx.mpr z))] at es
        refine r_iinc4 C (pc := 115) rfl d_O_bestLook_115 ?_
        refine r_goto C (pc := 118) (tgt := 69) d_O_bestLook_118 (by decide) ?_
        refine r_weak ?_ (ih (t + 1) _ (by omega) e3 e4 (fun s hs => by rw [e7 43 (by decide)]; exact ho s hs) (by show _ = lN (bfA S y (blN S y (4 * i + t + 1)) / Nat.gcd (bfA S y (blN S y (4 * i + t + 1))) (bfB S y (blN S y (4 * i + t + 1)))); rw [es, e7 4 (by decide)]; exact hb1) (by show _ = lN (bfB S y (blN S y (4 * i + t + 1)) / Nat.gcd (bfA S y (blN S y (4 * i + t + 1))) (bfB S y (blN S y (4 * i + t + 1)))); rw [es, e7 4 (by decide)]; exact hb2) (by omega))
        exact ⟨Or.inr rfl, Or.inr rfl, Or.inr (by show _ = some (Value.int (iI (blA (blN S y (4 * i + t + 1))))); rw [es]), Or.inr rfl, Or.inr rfl, trivial⟩
      · rw [if_pos (hrx.mp c93)] at es
        have eA : blA (blN S y (4 * i + t + 1)) = 10 * (i : Int) + (t : Int) := by rw [es]; exact blA_n i t ht4
        have eF : bfA S y (blN S y (4 * i + t + 1)) = wor S i y t := by rw [es, bfA_n, show (4 * i + t) / 4 = i by omega, show (4 * i + t) % 4 = t by omega]
        have eG : bfB S y (blN S y (4 * i + t + 1)) = 9 * allO S i y := by rw [es, bfB_n, show (4 * i + t) / 4 = i by omega]
        refine r_bipush C (pc := 96) (n := 10) rfl d_O_bestLook_96 ?_
        refine r_ild3 C (pc := 98) d_O_bestLook_98 ?_
        refine r_imul C (pc := 99) d_O_bestLook_99 ?_
        refine r_ild4 C (pc := 100) d_O_bestLook_100 ?_
        refine r_iadd C (pc := 102) d_O_bestLook_102 ?_
        refine r_ist2 C (pc := 103) rfl d_O_bestLook_103 ?_
        refine r_ald0 C (pc := 104) d_O_bestLook_104 ?_
        refine gX_O_best C (pc := 105) hS k_204 d_O_bestLook_105 ?_
        refine r_ald0 C (pc := 108) d_O_bestLook_108 ?_
        refine gX_O_fraction C (pc := 109) hS k_203 d_O_bestLook_109 ?_
        refine call_Q_copy C (pc := 112) hS (by decide) (c_Q_copy _ _ _ (by decide) (by decide)) k_539 (by decide) (Nat.le_of_ble_eq_true rfl) rfl d_O_bestLook_112 (kkV (fun N112 h112 => ?_))
        subst h112
        refine r_iinc4 C (pc := 115) rfl d_O_bestLook_115 ?_
        refine r_goto C (pc := 118) (tgt := 69) d_O_bestLook_118 (by decide) ?_
        refine r_weak ?_ (ih (t + 1) _ (by omega) e3 (fun a q => by rw [zJ_fn (by omega), zJ_fn (by omega)]; exact e4 a q) (fun s hs => by rw [zJ_fn (by decide), zJ_fn (by decide), e7 43 (by decide)]; exact ho s hs) (by show _ = lN (bfA S y (blN S y (4 * i + t + 1)) / Nat.gcd (bfA S y (blN S y (4 * i + t + 1))) (bfB S y (blN S y (4 * i + t + 1)))); rw [eF, eG, zJ_row (by decide), zJ_same]; exact e5) (by show _ = lN (bfB S y (blN S y (4 * i + t + 1)) / Nat.gcd (bfA S y (blN S y (4 * i + t + 1))) (bfB S y (blN S y (4 * i + t + 1)))); rw [eF, eG, zJ_same]; exact e6) (by omega))
        exact ⟨Or.inr rfl, Or.inr rfl, Or.inr (by show _ = some (Value.int (iI (blA (blN S y (4 * i + t + 1))))); rw [eA]), Or.inr rfl, Or.inr rfl, trivial⟩
set_option maxRecDepth 20000 in
theorem l_O_bestLook_31 {G : zG} (C : zC G b_O_bestLook "OldBeams" (some .int) 5 5 125) (hS : G.1 = sX) (M : zM) (S : zS) (hR : RX S M) (hO : ok S) (y : Int) (hy : 0 ≤ y ∧ y ≤ 500) (N0 : zM) (hR0 : RX S N0) (hj : ∀ b, b < S.1 0 → dA S (flS S) b = false → hJ S (psS S) (dA S (flS S)) N0 b) (hQ : G.2.2.1 = zPi (fun r M2 => r = fBest S y ∧ RX S M2)) : ∀ (n : Nat) (i : Nat) (N : zM), (i ≤ S.1 0) → (N.1 = N0.1) → (∀ a, 45 ≤ a → N.2 a = N0.2 a) → (N.2 4 0 = lN (bfA S y (blN S y (4 * i)) / Nat.gcd (bfA S y (blN S y (4 * i))) (bfB S y (blN S y (4 * i))))) → (N.2 4 1 = lN (bfB S y (blN S y (4 * i)) / Nat.gcd (bfA S y (blN S y (4 * i))) (bfB S y (blN S y (4 * i))))) → (S.1 0 - i < n) → VJ G N 31 [some (.ref (zad G 0)), some (.int (iI y)), some (.int (iI (blA (blN S y (4 * i))))), some (.int (iI (i : Int))), none] [] := by
  intro n
  induction n with
  | zero =>
    intro i N hin hN1 hN2 hb1 hb2 hn
    exact absurd hn (by omega)
  | succ n ih =>
    intro i N hin hN1 hN2 hb1 hb2 hn
    have h12 := hO.n
    have hRN := RXk hR0 (kX_4 hN1 hN2)
    refine r_ild3 C (pc := 31) d_O_bestLook_31 ?_
    refine r_ald0 C (pc := 32) d_O_bestLook_32 ?_
    refine gX_O_frame C (pc := 33) hS k_201 d_O_bestLook_33 ?_
    refine gX_F_beamCount C (pc := 36) hS k_98 d_O_bestLook_36 ?_
    rw [hRN.n]
    refine r_icmp_ge C (pc := 39) (tgt := 127) (by omega) (by omega) d_O_bestLook_39 (by decide) (fun c39 => ?_) (fun c39 => ?_)
    · refine r_ild2 C (pc := 127) d_O_bestLook_127 ?_
      exact r_iret C (pc := 128) hQ (⟨by unfold fBest; rw [if_neg (show ¬ ¬ (0 ≤ y ∧ y ≤ 500) by omega), show S.1 0 = i by omega], hRN⟩) d_O_bestLook_128
    · have K : ∀ N2 : zM, N2.1 = N0.1 → (∀ a, 45 ≤ a → N2.2 a = N0.2 a) → N2.2 4 0 = lN (bfA S y (blN S y (4 * (i + 1))) / Nat.gcd (bfA S y (blN S y (4 * (i + 1)))) (bfB S y (blN S y (4 * (i + 1))))) → N2.2 4 1 = lN (bfB S y (blN S y (4 * (i + 1))) / Nat.gcd (bfA S y (blN S y (4 * (i + 1)))) (bfB S y (blN S y (4 * (i + 1))))) → VJ G N2 121 [some (.ref (zad G 0)), some (.int (iI y)), some (.int (iI (blA (blN S y (4 * (i + 1)))))), some (.int (iI (i : Int))), none] [] := by
        intro N2 g1 g2 g3 g4
        refine r_iinc3 C (pc := 121) rfl d_O_bestLook_121 ?_
        refine r_goto C (pc := 124) (tgt := 31) d_O_bestLook_124 (by decide) ?_
        exact ih (i + 1) N2 (by omega) g1 g2 g3 g4 (by omega)
      refine r_ald0 C (pc := 42) d_O_bestLook_42 ?_
      refine gX_O_frame C (pc := 43) hS k_201 d_O_bestLook_43 ?_
      refine r_ild3 C (pc := 46) d_O_bestLook_46 ?_
      refine call_F_isDown C (pc := 47) hS (c_F_isDown _ _ _ S (by assumption) hO _ (by omega)) k_285 (by decide) (Nat.le_of_ble_eq_true rfl) rfl d_O_bestLook_47 (kkI (fun r47 N47 h47 => ?_))
      obtain ⟨rfl, rfl⟩ := h47
      refine r_ifeqB C (pc := 50) (tgt := 56) d_O_bestLook_50 (by decide) (fun c50 => ?_) (fun c50 => ?_)
      · have hdn : dA S (flS S) i = false := Bool.eq_false_iff.mpr c50
        refine r_ald0 C (pc := 56) d_O_bestLook_56 ?_
        refine gX_O_looks C (pc := 57) hS k_202 d_O_bestLook_57 ?_
        refine r_ild3 C (pc := 60) d_O_bestLook_60 ?_
        refine r_ild1 C (pc := 61) d_O_bestLook_61 ?_
        refine call_K_reckonOdds C (pc := 62) hS (c_K_reckonOdds _ _ N S hRN hO i (by omega) y hy) k_455 (by decide) (Nat.le_of_ble_eq_true rfl) rfl d_O_bestLook_62 (kkI (fun r62 N62 h62 => ?_))
        obtain ⟨-, a1, a2, a3⟩ := h62
        refine r_pop C (pc := 65) rfl d_O_bestLook_65 ?_
        refine r_iconst C (pc := 66) d_O_bestLook_66 ?_
        refine r_ist4 C (pc := 67) rfl d_O_bestLook_67 ?_
        refine r_weak ?_ (l_O_bestLook_69 C hS M S hR hO y hy N0 hR0 hj i (by omega) hdn K hQ 5 0 N62 (by omega) (a1.trans hN1) (fun a q => (a2 a (by omega) (by omega)).trans (hN2 a q)) a3 (by rw [a2 4 (by decide) (by decide)]; exact hb1) (by rw [a2 4 (by decide) (by decide)]; exact hb2) (by omega))
        exact ⟨Or.inr rfl, Or.inr rfl, Or.inr rfl, Or.inr rfl, Or.inr rfl, trivial⟩
      · have ed := blN_dn S y (i := i) c50
        refine r_goto C (pc := 53) (tgt := 121) d_O_bestLook_53 (by decide) ?_
        refine r_weak ?_ (K N hN1 hN2 (by rw [ed]; exact hb1) (by rw [ed]; exact hb2))
        exact ⟨Or.inr rfl, Or.inr rfl, Or.inr (by rw [ed]), Or.inr rfl, Or.inl rfl, trivial⟩
set_option maxRecDepth 20000 in
theorem c_O_bestLook (l : Launch) (E : zE) (M : zM) (S : zS) (hR : RX S M) (hO : ok S) (y : Int) (hy : -2147483648 ≤ y ∧ y < 2147483648) : zK l sX E y_O_bestLook b_O_bestLook 5 (some .int) 5 125 [.ref (E.2.2 0), .int (iI y)] M (zPi (fun r M2 => r = fBest S y ∧ RX S M2)) := by
  refine zK.of "OldBeams" rfl (by decide) (Nat.le_of_ble_eq_true rfl) ?_
  intro G hS hE hQ hL C
  subst hE
  subst hL
  show VJ G M 0 [some (.ref (G.2.1.2.2 0)), some (.int (iI y)), none, none, none] []
  have h12 := hO.n
  have hbn := hR.n
  refine r_ild1 C (pc := 0) d_O_bestLook_0 ?_
  refine call_O_isYear C (pc := 1) hS (c_O_isYear _ _ _ _ (by omega)) k_236 (by decide) (Nat.le_of_ble_eq_true rfl) rfl d_O_bestLook_1 (kkI (fun r1 N1 h1 => ?_))
  obtain ⟨rfl, rfl⟩ := h1
  refine r_ifneB C (pc := 4) (tgt := 10) d_O_bestLook_4 (by decide) (fun c4 => ?_) (fun c4 => ?_)
  · refine r_ald0 C (pc := 10) d_O_bestLook_10 ?_
    refine gX_O_frame C (pc := 11) hS k_201 d_O_bestLook_11 ?_
    refine call_F_reckonNow C (pc := 14) hS (c_F_reckonNow _ _ M S hR hO) k_340 (by decide) (Nat.le_of_ble_eq_true rfl) rfl d_O_bestLook_14 (kkV (fun N14 h14 => ?_))
    obtain ⟨b1, b2, b3⟩ := h14
    have hR2 := RXb hR b1
    refine r_ldc C (pc := 17) (z := (-900009)) k_267 rfl d_O_bestLook_17 ?_
    refine r_ist2 C (pc := 19) rfl d_O_bestLook_19 ?_
    refine r_ald0 C (pc := 20) d_O_bestLook_20 ?_
    refine gX_O_best C (pc := 21) hS k_204 d_O_bestLook_21 ?_
    refine r_lconst C (pc := 24) (v := 0) rfl d_O_bestLook_24 ?_
    refine r_lconst C (pc := 25) (v := 1) rfl d_O_bestLook_25 ?_
    refine call_Q_put C (pc := 26) hS (by decide) (c_Q_put _ _ N14 4 (by decide) 0 1 (by decide) (by decide) (by decide)) k_522 (by decide) (Nat.le_of_ble_eq_true rfl) rfl d_O_bestLook_26 (kkV (fun N26 h26 => ?_))
    subst h26
    refine r_iconst C (pc := 29) d_O_bestLook_29 ?_
    refine r_ist3 C (pc := 30) rfl d_O_bestLook_30 ?_
    refine r_weak ?_ (l_O_bestLook_31 C hS M S hR hO y (by omega) N14 hR2 b3 hQ (S.1 0 + 1) 0 _ (by omega) rfl (fun a q => (zJ_fn (by omega)).trans (zJ_fn (by omega))) (by rw [zJ_row (by decide), zJ_same]; rfl) (by rw [zJ_same]; rfl) (by omega))
    exact ⟨Or.inr rfl, Or.inr rfl, Or.inr rfl, Or.inr rfl, Or.inl rfl, trivial⟩
  · refine r_ldc C (pc := 7) (z := (-900002)) k_231 rfl d_O_bestLook_7 ?_
    exact r_iret C (pc := 9) hQ (⟨by unfold fBest; rw [if_pos (by omega)], hR⟩) d_O_bestLook_9
