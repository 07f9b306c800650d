theorem RX.n {S : zS} {M : zM} (h : RX S M) : M.1 1 2 = (S.1 0 : Int) := h.1.1
theorem ok.n {S : zS} (h : ok S) : S.1 0 ≤ 12 := h.1.1
theorem mul_rng {a b A B : Int} (ha : 0 ≤ a ∧ a ≤ A) (hb : 0 ≤ b ∧ b ≤ B) : 0 ≤ a * b ∧ a * b ≤ A * B := ⟨Int.mul_nonneg ha.1 hb.1, Int.mul_le_mul ha.2 hb.2 hb.1 (by omega)⟩
theorem wh_rng {S : zS} (hO : ok S) {b : Nat} (hb : b < S.1 0) : (0 ≤ S.2 1 (S.2 2 b 0).toNat 0 * S.2 2 b 2 * S.2 2 b 3 * S.2 2 b 3 ∧ S.2 1 (S.2 2 b 0).toNat 0 * S.2 2 b 2 * S.2 2 b 3 * S.2 2 b 3 ≤ 63936000) ∧ 0 ≤ wh S b ∧ wh S b ≤ 639360 := by
  have h := hO.2.2.1 b hb
  obtain ⟨h1, h2, h3, h4, -⟩ := h
  have hk := (hO.2.1 (S.2 2 b 0).toNat (by omega)).1
  have m1 := mul_rng (a := S.2 1 (S.2 2 b 0).toNat 0) (b := S.2 2 b 2) (A := 999) (B := 40) ⟨by omega, by omega⟩ ⟨by omega, by omega⟩
  have m2 := mul_rng (b := S.2 2 b 3) (B := 40) m1 ⟨by omega, by omega⟩
  have m3 := mul_rng (b := S.2 2 b 3) (B := 40) m2 ⟨by omega, by omega⟩
  have e : (999 * 40 * 40 * 40 : Int) = 63936000 := by decide
  rw [e] at m3
  refine ⟨m3, ?_⟩
  unfold wh
  omega
theorem dn_succ (S : zS) (fal : Nat → Bool) (k j : Nat) : dn S fal (k + 1) j = if j = k then (fal k || (decide (S.2 4 k 0 ≠ -900009) && dn S fal k (S.2 4 k 0).toNat)) || (decide (S.2 4 k 1 ≠ -900009) && dn S fal k (S.2 4 k 1).toNat) else dn S fal k j := rfl
theorem dn_cong (S : zS) {f g : Nat → Bool} : ∀ k : Nat, (∀ j, j < k → f j = g j) → dn S f k = dn S g k
  | 0, _ => rfl
  | k + 1, h => by
    have ih := dn_cong S k (fun j hj => h j (by omega))
    funext j
    rw [dn_succ, dn_succ, ih, h k (by omega)]
theorem dcnt_succ (d : Nat → Bool) (n : Nat) : dcnt d (n + 1) = dcnt d n + (if d n then 1 else 0) := rfl
theorem dcnt_cong {f g : Nat → Bool} : ∀ n : Nat, (∀ j, j < n → f j = g j) → dcnt f n = dcnt g n
  | 0, _ => rfl
  | n + 1, h => by rw [dcnt_succ, dcnt_succ, dcnt_cong n (fun j hj => h j (by omega)), h n (by omega)]
theorem dcnt_ext {f : Nat → Bool} {n : Nat} : ∀ k : Nat, (∀ j, n ≤ j → j < n + k → f j = false) → dcnt f (n + k) = dcnt f n
  | 0, _ => rfl
  | k + 1, h => by
    rw [← Nat.add_assoc, dcnt_succ, dcnt_ext k (fun j h1 h2 => h j h1 (by omega)), h (n + k) (by omega) (by omega)]
    rfl
theorem fl_out {S : zS} (hO : ok S) {i : Nat} (h1 : S.1 0 ≤ i) (h2 : i < 12) : flS S i = false := by
  have := (hO.2.2.2.2.1 i h2 h1).2.1
  unfold flS
  rw [this]
  rfl
theorem tb_or {d k i : Nat} : (d ||| 2 ^ k).testBit i = (d.testBit i || decide (k = i)) := by rw [Nat.testBit_or, Nat.testBit_two_pow]
theorem or_4096 {d k : Nat} (hd : d < 4096) (hk : k < 12) : d ||| 2 ^ k < 4096 := Nat.or_lt_two_pow (n := 12) hd (Nat.pow_lt_pow_right (by decide) hk)
set_option maxRecDepth 20000 in
theorem c_F_hasPlace (l : Launch) (E : zE) (M : zM) (S : zS) (hR : RX S M) (hO : ok S) (b p : Int) (hb : -2147483648 ≤ b ∧ b < 2147483648) (hp : -2147483648 ≤ p ∧ p < 2147483648) : zK l sX E y_F_hasPlace b_F_hasPlace 3 (some .boolean) 2 43 [.ref (E.2.2 1), .int (iI b), .int (iI p)] M (zPi (fun r M2 => r = zb ((0 ≤ b ∧ b < (S.1 0 : Int)) ∧ 0 ≤ p ∧ p ≤ S.2 2 b.toNat 1) ∧ M = M2)) := by
  refine zK.of "OldBeams$Frame" rfl (by decide) (Nat.le_of_ble_eq_true rfl) ?_
  intro G hS hE hQ hL C
  subst hE
  subst hL
  show VJ G M 0 [some (.ref (G.2.1.2.2 1)), some (.int (iI b)), some (.int (iI p))] []
  have hn := hO.n
  have hbn := hR.n
  refine r_ald0 C (pc := 0) d_F_hasPlace_0 ?_
  refine r_ild1 C (pc := 1) d_F_hasPlace_1 ?_
  refine call_F_hasBeam C (pc := 2) hS (c_F_hasBeam _ _ M b (by omega) (by omega)) k_266 (by decide) (Nat.le_of_ble_eq_true rfl) rfl d_F_hasPlace_2 (kkI (fun r2 N2 h2 => ?_))
  obtain ⟨rfl, rfl⟩ := h2
  rw [hbn]
  refine r_ifeqB C (pc := 5) (tgt := 29) d_F_hasPlace_5 (by decide) (fun c5 => ?_) (fun c5 => ?_)
  · refine r_iconst C (pc := 29) d_F_hasPlace_29 ?_
    exact r_zret C (pc := 30) hQ (by first | exact Or.inl rfl | exact Or.inr rfl | exact zb_01 _ | assumption) (⟨by first | exact zb_of1 ⟨c5, c22⟩ | exact zb_of0 (fun q => c22 q.2) | exact zb_of0 (fun q => c5 q.1), rfl⟩) d_F_hasPlace_30
  · have hb2 := hO.2.2.1 b.toNat (by omega)
    have hr2 := (hR.2.2.1 b.toNat (by omega)).1
    obtain ⟨-, hL, -⟩ := hb2
    refine r_ild2 C (pc := 8) d_F_hasPlace_8 ?_
    refine r_iconst C (pc := 9) d_F_hasPlace_9 ?_
    refine r_ald0 C (pc := 10) d_F_hasPlace_10 ?_
    refine gX_F_beams C (pc := 11) hS k_95 d_F_hasPlace_11 ?_
    refine r_ild1 C (pc := 14) d_F_hasPlace_14 ?_
    refine X_beams C (pc := 15) hS (by omega) (by omega) d_F_hasPlace_15 ?_
    refine gX_B_length C (pc := 16) hS (by omega) k_36 d_F_hasPlace_16 ?_
    rw [hr2.2.1]
    refine calln_O_within C (pc := 19) hS rfl rfl (c_O_within _ _ _ _ _ _ (by omega) (by omega) (by omega)) (by decide) (Nat.le_of_ble_eq_true rfl) rfl d_F_hasPlace_19 (kkI (fun r19 N19 h19 => ?_))
    obtain ⟨rfl, rfl⟩ := h19
    refine r_ifeqB C (pc := 22) (tgt := 29) d_F_hasPlace_22 (by decide) (fun c22 => ?_) (fun c22 => ?_)
    · refine r_iconst C (pc := 29) d_F_hasPlace_29 ?_
      exact r_zret C (pc := 30) hQ (by first | exact Or.inl rfl | exact Or.inr rfl | exact zb_01 _ | assumption) (⟨by first | exact zb_of1 ⟨c5, c22⟩ | exact zb_of0 (fun q => c22 q.2) | exact zb_of0 (fun q => c5 q.1), rfl⟩) d_F_hasPlace_30
    · refine r_iconst C (pc := 25) d_F_hasPlace_25 ?_
      refine r_goto C (pc := 26) (tgt := 30) d_F_hasPlace_26 (by decide) ?_
      exact r_zret C (pc := 30) hQ (by first | exact Or.inl rfl | exact Or.inr rfl | exact zb_01 _ | assumption) (⟨by first | exact zb_of1 ⟨c5, c22⟩ | exact zb_of0 (fun q => c22 q.2) | exact zb_of0 (fun q => c5 q.1), rfl⟩) d_F_hasPlace_30
set_option maxRecDepth 20000 in
theorem c_F_wholeStrength (l : Launch) (E : zE) (M : zM) (S : zS) (hR : RX S M) (hO : ok S) (b : Nat) (hb : b < S.1 0) : zK l sX E y_F_wholeStrength b_F_wholeStrength 3 (some .int) 0 0 [.ref (E.2.2 1), .int (iI (b : Int))] M (zPi (fun r M2 => r = wh S b ∧ M = M2)) := by
  refine zK.of "OldBeams$Frame" rfl (by decide) (Nat.le_of_ble_eq_true rfl) ?_
  intro G hS hE hQ hL C
  subst hE
  subst hL
  show VJ G M 0 [some (.ref (G.2.1.2.2 1)), some (.int (iI (b : Int))), none] []
  have hn := hO.n
  have hw := wh_rng hO hb
  have hb2 := hO.2.2.1 b hb
  obtain ⟨⟨e0, -, e2, e3⟩, -⟩ := hR.2.2.1 b hb
  obtain ⟨hk, -⟩ := hb2
  refine r_ald0 C (pc := 0) d_F_wholeStrength_0 ?_
  refine gX_F_beams C (pc := 1) hS k_95 d_F_wholeStrength_1 ?_
  refine r_ild1 C (pc := 4) d_F_wholeStrength_4 ?_
  refine X_beamsN C (pc := 5) hS (b) (by omega) (by omega) d_F_wholeStrength_5 ?_
  refine r_ast2 C (pc := 6) rfl d_F_wholeStrength_6 ?_
  refine r_ald0 C (pc := 7) d_F_wholeStrength_7 ?_
  refine gX_F_kinds C (pc := 8) hS k_93 d_F_wholeStrength_8 ?_
  refine r_ald2 C (pc := 11) d_F_wholeStrength_11 ?_
  refine gX_B_kind C (pc := 12) hS (by omega) k_34 d_F_wholeStrength_12 ?_
  rw [e0]
  refine X_kindsN C (pc := 15) hS ((S.2 2 b 0).toNat) (by omega) (by omega) d_F_wholeStrength_15 ?_
  refine r_iconst C (pc := 16) d_F_wholeStrength_16 ?_
  refine X_ialdN C (pc := 17) hS (0) (by omega) (shKr (by omega)) (by omega) (by omega) (by decide) d_F_wholeStrength_17 ?_
  refine r_ald2 C (pc := 18) d_F_wholeStrength_18 ?_
  refine gX_B_width C (pc := 19) hS (by omega) k_39 d_F_wholeStrength_19 ?_
  rw [hR.2.1 (S.2 2 b 0).toNat (by omega) 0 (by omega), e2]
  refine r_imul C (pc := 22) d_F_wholeStrength_22 ?_
  refine r_ald2 C (pc := 23) d_F_wholeStrength_23 ?_
  refine gX_B_height C (pc := 24) hS (by omega) k_41 d_F_wholeStrength_24 ?_
  rw [e3]
  refine r_imul C (pc := 27) d_F_wholeStrength_27 ?_
  refine r_ald2 C (pc := 28) d_F_wholeStrength_28 ?_
  refine gX_B_height C (pc := 29) hS (by omega) k_41 d_F_wholeStrength_29 ?_
  rw [e3]
  refine r_imul C (pc := 32) d_F_wholeStrength_32 ?_
  refine r_bipush C (pc := 33) (n := 100) rfl d_F_wholeStrength_33 ?_
  refine r_idiv C (pc := 35) ⟨by omega, by omega⟩ (by decide) d_F_wholeStrength_35 ?_
  exact r_iret C (pc := 36) hQ (⟨rfl, rfl⟩) d_F_wholeStrength_36
set_option maxRecDepth 20000 in
theorem c_F_holdsWith (l : Launch) (E : zE) (M : zM) (S : zS) (hR : RX S M) (hO : ok S) (b : Nat) (hb : b < S.1 0) (t : Int) (ht : 0 ≤ t ∧ t ≤ 10) : zK l sX E y_F_holdsWith b_F_holdsWith 4 (some .boolean) 1 22 [.ref (E.2.2 1), .int (iI (b : Int)), .int (iI t)] M (zPi (fun r M2 => r = zb (¬ (M.2 (45 + 7 * b + 6) 0 < 0 ∨ M.2 (45 + 7 * b + 6) 1 < 0) ∧ M.2 (45 + 7 * b) 11 ≤ lI (wh S b * t / 10)) ∧ M = M2)) := by
  refine zK.of "OldBeams$Frame" rfl (by decide) (Nat.le_of_ble_eq_true rfl) ?_
  intro G hS hE hQ hL C
  subst hE
  subst hL
  show VJ G M 0 [some (.ref (G.2.1.2.2 1)), some (.int (iI (b : Int))), some (.int (iI t)), none] []
  have hn := hO.n
  have hw := (wh_rng hO hb).2
  have hm := mul_rng hw ht
  refine r_ald0 C (pc := 0) d_F_holdsWith_0 ?_
  refine gX_F_beams C (pc := 1) hS k_95 d_F_holdsWith_1 ?_
  refine r_ild1 C (pc := 4) d_F_holdsWith_4 ?_
  refine X_beamsN C (pc := 5) hS (b) (by omega) (by omega) d_F_holdsWith_5 ?_
  refine r_ast3 C (pc := 6) rfl d_F_holdsWith_6 ?_
  refine r_ald3 C (pc := 7) d_F_holdsWith_7 ?_
  refine call_B_isLifted C (pc := 8) hS (by omega) (c_B_isLifted _ _ _ _ (by omega)) k_408 (by decide) (Nat.le_of_ble_eq_true rfl) rfl d_F_holdsWith_8 (kkI (fun r8 N8 h8 => ?_))
  obtain ⟨rfl, rfl⟩ := h8
  refine r_ifneB C (pc := 11) (tgt := 37) d_F_holdsWith_11 (by decide) (fun c11 => ?_) (fun c11 => ?_)
  · refine r_iconst C (pc := 37) d_F_holdsWith_37 ?_
    exact r_zret C (pc := 38) hQ (by first | exact Or.inl rfl | exact Or.inr rfl | exact zb_01 _ | assumption) (⟨by first | exact zb_of1 ⟨c11, Int64.not_lt.mp c29⟩ | exact zb_of0 (fun q => q.1 c11) | exact zb_of0 (fun q => absurd c29 (Int64.not_lt.mpr q.2)), rfl⟩) d_F_holdsWith_38
  · refine r_ald3 C (pc := 14) d_F_holdsWith_14 ?_
    refine gX_B_greatestBending C (pc := 15) hS (by omega) k_60 d_F_holdsWith_15 ?_
    refine r_ald0 C (pc := 18) d_F_holdsWith_18 ?_
    refine r_ild1 C (pc := 19) d_F_holdsWith_19 ?_
    refine call_F_wholeStrength C (pc := 20) hS (c_F_wholeStrength _ _ _ S (by assumption) hO _ (by assumption)) k_409 (by decide) (Nat.le_of_ble_eq_true rfl) rfl d_F_holdsWith_20 (kkI (fun r20 N20 h20 => ?_))
    obtain ⟨rfl, rfl⟩ := h20
    refine r_ild2 C (pc := 23) d_F_holdsWith_23 ?_
    refine r_imul C (pc := 24) d_F_holdsWith_24 ?_
    refine r_bipush C (pc := 25) (n := 10) rfl d_F_holdsWith_25 ?_
    refine r_idiv C (pc := 27) (by omega) (by omega) d_F_holdsWith_27 ?_
    refine r_i2l C (pc := 28) (by omega) d_F_holdsWith_28 ?_
    refine r_lcmp_gt C (pc := 29) (tgt := 37) d_F_holdsWith_29 d_F_holdsWith_30 (by decide) (fun c29 => ?_) (fun c29 => ?_)
    · refine r_iconst C (pc := 37) d_F_holdsWith_37 ?_
      exact r_zret C (pc := 38) hQ (by first | exact Or.inl rfl | exact Or.inr rfl | exact zb_01 _ | assumption) (⟨by first | exact zb_of1 ⟨c11, Int64.not_lt.mp c29⟩ | exact zb_of0 (fun q => q.1 c11) | exact zb_of0 (fun q => absurd c29 (Int64.not_lt.mpr q.2)), rfl⟩) d_F_holdsWith_38
    · refine r_iconst C (pc := 33) d_F_holdsWith_33 ?_
      refine r_goto C (pc := 34) (tgt := 38) d_F_holdsWith_34 (by decide) ?_
      exact r_zret C (pc := 38) hQ (by first | exact Or.inl rfl | exact Or.inr rfl | exact zb_01 _ | assumption) (⟨by first | exact zb_of1 ⟨c11, Int64.not_lt.mp c29⟩ | exact zb_of0 (fun q => q.1 c11) | exact zb_of0 (fun q => absurd c29 (Int64.not_lt.mpr q.2)), rfl⟩) d_F_holdsWith_38
set_option maxRecDepth 20000 in
theorem c_F_shareLeft (l : Launch) (E : zE) (M : zM) (S : zS) (hR : RX S M) (hO : ok S) (b : Nat) (hb : b < S.1 0) (t y : Int) (ht : 0 ≤ t ∧ t ≤ 10) (hy : 0 ≤ y ∧ y ≤ 500) : zK l sX E y_F_shareLeft b_F_shareLeft 6 (some .int) 1 21 [.ref (E.2.2 1), .int (iI (b : Int)), .int (iI t), .int (iI y)] M (zPi (fun r M2 => r = shL S b t y ∧ M = M2)) := by
  refine zK.of "OldBeams$Frame" rfl (by decide) (Nat.le_of_ble_eq_true rfl) ?_
  intro G hS hE hQ hL C
  subst hE
  subst hL
  show VJ G M 0 [some (.ref (G.2.1.2.2 1)), some (.int (iI (b : Int))), some (.int (iI t)), some (.int (iI y)), none, none] []
  have hn := hO.n
  have hb2 := hO.2.2.1 b hb
  obtain ⟨⟨e0, -⟩, -⟩ := hR.2.2.1 b hb
  obtain ⟨hk, -⟩ := hb2
  have hwt := (hO.2.2.2.1 b (by omega)).1
  have hwr := (hR.2.2.2.1 b (by omega)).1
  have hkk := hO.2.1 (S.2 2 b 0).toNat (by omega)
  have hkr := hR.2.1 (S.2 2 b 0).toNat (by omega)
  refine r_ald0 C (pc := 0) d_F_shareLeft_0 ?_
  refine gX_F_beams C (pc := 1) hS k_95 d_F_shareLeft_1 ?_
  refine r_ild1 C (pc := 4) d_F_shareLeft_4 ?_
  refine X_beamsN C (pc := 5) hS (b) (by omega) (by omega) d_F_shareLeft_5 ?_
  refine r_ast4 C (pc := 6) rfl d_F_shareLeft_6 ?_
  refine r_ald0 C (pc := 8) d_F_shareLeft_8 ?_
  refine gX_F_kinds C (pc := 9) hS k_93 d_F_shareLeft_9 ?_
  refine r_ald4 C (pc := 12) d_F_shareLeft_12 ?_
  refine gX_B_kind C (pc := 14) hS (by omega) k_34 d_F_shareLeft_14 ?_
  rw [e0]
  refine X_kindsN C (pc := 17) hS ((S.2 2 b 0).toNat) (by omega) (by omega) d_F_shareLeft_17 ?_
  refine r_ald4 C (pc := 18) d_F_shareLeft_18 ?_
  refine gX_B_isWet C (pc := 20) hS (by omega) k_43 d_F_shareLeft_20 ?_
  rw [hwr]
  refine r_if_eq C (pc := 23) (tgt := 30) (by omega) d_F_shareLeft_23 (by decide) (fun c23 => ?_) (fun c23 => ?_)
  · have hm := mul_rng hy hkk.2.1
    refine r_iconst C (pc := 30) d_F_shareLeft_30 ?_
    refine X_ialdN C (pc := 31) hS (1) (by omega) (shKr (by omega)) (by omega) (by omega) (by decide) d_F_shareLeft_31 ?_
    first | rw [hkr 1 (by omega)] | rw [hkr 2 (by omega)]
    refine r_ist5 C (pc := 32) rfl d_F_shareLeft_32 ?_
    refine r_iconst C (pc := 34) d_F_shareLeft_34 ?_
    refine r_ild2 C (pc := 35) d_F_shareLeft_35 ?_
    refine r_ild3 C (pc := 36) d_F_shareLeft_36 ?_
    refine r_ild5 C (pc := 37) d_F_shareLeft_37 ?_
    refine r_imul C (pc := 39) d_F_shareLeft_39 ?_
    refine r_bipush C (pc := 40) (n := 10) rfl d_F_shareLeft_40 ?_
    refine r_idiv C (pc := 42) (by omega) (by omega) d_F_shareLeft_42 ?_
    refine r_isub C (pc := 43) d_F_shareLeft_43 ?_
    refine call_Ma_max C (pc := 44) hS (c_Ma_max _ _ _ _ _ (by omega) (by omega)) k_487 (by decide) (Nat.le_of_ble_eq_true rfl) rfl d_F_shareLeft_44 (kkI (fun r44 N44 h44 => ?_))
    obtain ⟨rfl, rfl⟩ := h44
    exact r_iret C (pc := 47) hQ (⟨by unfold shL; first | (rw [c23, show (1 + Int.toNat 0) = 1 from rfl]; split <;> split <;> omega) | (rw [show S.2 2 b 4 = 1 by omega, show (1 + Int.toNat 1) = 2 from rfl]; split <;> split <;> omega), rfl⟩) d_F_shareLeft_47
  · have hm := mul_rng hy hkk.2.2
    refine r_iconst C (pc := 26) d_F_shareLeft_26 ?_
    refine r_goto C (pc := 27) (tgt := 31) d_F_shareLeft_27 (by decide) ?_
    refine X_ialdN C (pc := 31) hS (2) (by omega) (shKr (by omega)) (by omega) (by omega) (by decide) d_F_shareLeft_31 ?_
    first | rw [hkr 1 (by omega)] | rw [hkr 2 (by omega)]
    refine r_ist5 C (pc := 32) rfl d_F_shareLeft_32 ?_
    refine r_iconst C (pc := 34) d_F_shareLeft_34 ?_
    refine r_ild2 C (pc := 35) d_F_shareLeft_35 ?_
    refine r_ild3 C (pc := 36) d_F_shareLeft_36 ?_
    refine r_ild5 C (pc := 37) d_F_shareLeft_37 ?_
    refine r_imul C (pc := 39) d_F_shareLeft_39 ?_
    refine r_bipush C (pc := 40) (n := 10) rfl d_F_shareLeft_40 ?_
    refine r_idiv C (pc := 42) (by omega) (by omega) d_F_shareLeft_42 ?_
    refine r_isub C (pc := 43) d_F_shareLeft_43 ?_
    refine call_Ma_max C (pc := 44) hS (c_Ma_max _ _ _ _ _ (by omega) (by omega)) k_487 (by decide) (Nat.le_of_ble_eq_true rfl) rfl d_F_shareLeft_44 (kkI (fun r44 N44 h44 => ?_))
    obtain ⟨rfl, rfl⟩ := h44
    exact r_iret C (pc := 47) hQ (⟨by unfold shL; first | (rw [c23, show (1 + Int.toNat 0) = 1 from rfl]; split <;> split <;> omega) | (rw [show S.2 2 b 4 = 1 by omega, show (1 + Int.toNat 1) = 2 from rfl]; split <;> split <;> omega), rfl⟩) d_F_shareLeft_47
set_option maxRecDepth 20000 in
theorem l_F_loadsOn_4 {G : zG} (C : zC G b_F_loadsOn "OldBeams$Frame" (some .int) 3 0 0) (hS : G.1 = sX) (M : zM) (S : zS) (hR : RX S M) (hO : ok S) (hQ : G.2.2.1 = zPi (fun r M2 => r = (dcnt (fun l => decide (S.2 6 l 3 = 1)) (S.1 1) : Int) ∧ M = M2)) : ∀ (n : Nat) (l : Nat), (l ≤ S.1 1) → (S.1 1 - l < n) → VJ G M 4 [some (.ref (zad G 1)), some (.int (iI (dcnt (fun l => decide (S.2 6 l 3 = 1)) l : Int))), some (.int (iI (l : Int)))] [] := by
  intro n
  induction n with
  | zero =>
    intro l hl hn
    exact absurd hn (by omega)
  | succ n ih =>
    intro l hl hn
    have h12 := hO.1
    have hcnt : M.1 1 8 = (S.1 1 : Int) := hR.1.2.1
    have e := dcnt_succ (fun l => decide (S.2 6 l 3 = 1)) l
    refine r_ild2 C (pc := 4) d_F_loadsOn_4 ?_
    refine r_ald0 C (pc := 5) d_F_loadsOn_5 ?_
    refine gX_F_loadCount C (pc := 6) hS k_107 d_F_loadsOn_6 ?_
    rw [hcnt]
    refine r_icmp_ge C (pc := 9) (tgt := 30) (by omega) (by omega) d_F_loadsOn_9 (by decide) (fun c9 => ?_) (fun c9 => ?_)
    · refine r_ild1 C (pc := 30) d_F_loadsOn_30 ?_
      exact r_iret C (pc := 31) hQ (⟨by rw [show l = S.1 1 by omega], rfl⟩) d_F_loadsOn_31
    · have hlr := hR.2.2.2.2.2.1 l (by omega)
      have hlo := (hO.2.2.2.2.2.1 l (by omega)).2.2.2
      refine r_ald0 C (pc := 12) d_F_loadsOn_12 ?_
      refine gX_F_loadIsOn C (pc := 13) hS k_105 d_F_loadsOn_13 ?_
      refine r_ild2 C (pc := 16) d_F_loadsOn_16 ?_
      refine X_baldN C (pc := 17) hS (l) (by omega) rfl (by decide) (by omega) (by decide) d_F_loadsOn_17 ?_
      rw [hlr.2.2.2]
      refine r_if_eq C (pc := 18) (tgt := 24) (by omega) d_F_loadsOn_18 (by decide) (fun c18 => ?_) (fun c18 => ?_)
      · refine r_iinc2 C (pc := 24) rfl d_F_loadsOn_24 ?_
        refine r_goto C (pc := 27) (tgt := 4) d_F_loadsOn_27 (by decide) ?_
        refine r_weak ?_ (ih (l + 1) (by omega) (by omega))
        exact ⟨Or.inr rfl, Or.inr (by rw [e]; first | (rw [if_neg (by simp; omega)]; rfl) | (rw [if_pos (by simp; omega)]; rfl)), Or.inr rfl, trivial⟩
      · refine r_iinc1 C (pc := 21) rfl d_F_loadsOn_21 ?_
        refine r_iinc2 C (pc := 24) rfl d_F_loadsOn_24 ?_
        refine r_goto C (pc := 27) (tgt := 4) d_F_loadsOn_27 (by decide) ?_
        refine r_weak ?_ (ih (l + 1) (by omega) (by omega))
        exact ⟨Or.inr rfl, Or.inr (by rw [e]; first | (rw [if_neg (by simp; omega)]; rfl) | (rw [if_pos (by simp; omega)]; rfl)), Or.inr rfl, trivial⟩
set_option maxRecDepth 20000 in
theorem c_F_loadsOn (l : Launch) (E : zE) (M : zM) (S : zS) (hR : RX S M) (hO : ok S) : zK l sX E y_F_loadsOn b_F_loadsOn 3 (some .int) 0 0 [.ref (E.2.2 1)] M (zPi (fun r M2 => r = (dcnt (fun l => decide (S.2 6 l 3 = 1)) (S.1 1) : Int) ∧ M = M2)) := by
  refine zK.of "OldBeams$Frame" rfl (by decide) (Nat.le_of_ble_eq_true rfl) ?_
  intro G hS hE hQ hL C
  subst hE
  subst hL
  show VJ G M 0 [some (.ref (G.2.1.2.2 1)), none, none] []
  refine r_iconst C (pc := 0) d_F_loadsOn_0 ?_
  refine r_ist1 C (pc := 1) rfl d_F_loadsOn_1 ?_
  refine r_iconst C (pc := 2) d_F_loadsOn_2 ?_
  refine r_ist2 C (pc := 3) rfl d_F_loadsOn_3 ?_
  exact l_F_loadsOn_4 C hS M S hR hO hQ (S.1 1 + 1) 0 (by omega) (by omega)
set_option maxRecDepth 20000 in
theorem l_F_downBy_4 {G : zG} (C : zC G b_F_downBy "OldBeams$Frame" (some .int) 5 2 42) (hS : G.1 = sX) (M : zM) (S : zS) (hR : RX S M) (hO : ok S) (m : Nat) (hm : m < 4096) (hQ : G.2.2.1 = zPi (fun r M2 => (∃ w : Nat, r = (w : Int) ∧ w < 4096 ∧ ∀ i, i < 12 → w.testBit i = if i < S.1 0 then dA S (fun j => m.testBit j) i else m.testBit i) ∧ M = M2)) : ∀ (n : Nat) (k d : Nat), (k ≤ S.1 0) → (d < 4096) → (∀ i, i < 12 → d.testBit i = if i < k then dn S (fun j => m.testBit j) k i else m.testBit i) → (S.1 0 - k < n) → VJ G M 4 [some (.ref (zad G 1)), some (.int (iI (m : Int))), some (.int (iI (d : Int))), some (.int (iI (k : Int))), none] [] := by
  intro n
  induction n with
  | zero =>
    intro k d hk hd hb hn
    exact absurd hn (by omega)
  | succ n ih =>
    intro k d hk hd hb hn
    have h12 := hO.n
    have hcnt := hR.n
    refine r_ild3 C (pc := 4) d_F_downBy_4 ?_
    refine r_ald0 C (pc := 5) d_F_downBy_5 ?_
    refine gX_F_beamCount C (pc := 6) hS k_97 d_F_downBy_6 ?_
    rw [hcnt]
    refine r_icmp_ge C (pc := 9) (tgt := 60) (by omega) (by omega) d_F_downBy_9 (by decide) (fun c9 => ?_) (fun c9 => ?_)
    · refine r_ild2 C (pc := 60) d_F_downBy_60 ?_
      exact r_iret C (pc := 61) hQ (⟨⟨d, rfl, hd, fun i hi => by rw [hb i hi]; unfold dA; rw [show k = S.1 0 by omega]⟩, rfl⟩) d_F_downBy_61
    · have hkr := (hR.2.2.1 k (by omega)).2
      have hko := hO.2.2.1 k (by omega)
      obtain ⟨-, -, -, -, -, -, -, hs0, hs1⟩ := hko
      have es := dn_succ S (fun j => m.testBit j) k
      have hb0 : S.2 4 k 0 ≠ -900009 → d.testBit (S.2 4 k 0).toNat = dn S (fun j => m.testBit j) k (S.2 4 k 0).toNat := fun q => by rw [hb _ (by omega), if_pos (by omega)]
      have hb1 : S.2 4 k 1 ≠ -900009 → d.testBit (S.2 4 k 1).toNat = dn S (fun j => m.testBit j) k (S.2 4 k 1).toNat := fun q => by rw [hb _ (by omega), if_pos (by omega)]
      have hbk : d.testBit k = m.testBit k := by rw [hb k (by omega), if_neg (by omega)]
      refine r_ald0 C (pc := 12) d_F_downBy_12 ?_
      refine gX_F_beams C (pc := 13) hS k_95 d_F_downBy_13 ?_
      refine r_ild3 C (pc := 16) d_F_downBy_16 ?_
      refine X_beamsN C (pc := 17) hS (k) (by omega) (by omega) d_F_downBy_17 ?_
      refine r_ast4 C (pc := 18) rfl d_F_downBy_18 ?_
      refine r_ald4 C (pc := 20) d_F_downBy_20 ?_
      refine gX_B_on C (pc := 22) hS (by omega) k_48 d_F_downBy_22 ?_
      refine r_iconst C (pc := 25) d_F_downBy_25 ?_
      refine X_ialdN C (pc := 26) hS (0) (by omega) (shB2 _) (by omega) (by omega) (by decide) d_F_downBy_26 ?_
      rw [(hkr 0 (by omega)).2.1]
      refine r_ild2 C (pc := 27) d_F_downBy_27 ?_
      refine call_F_restsOn C (pc := 28) hS (c_F_restsOn _ _ _ _ _ (by omega) (by omega)) k_293 (by decide) (Nat.le_of_ble_eq_true rfl) rfl d_F_downBy_28 (kkI (fun r28 N28 h28 => ?_))
      obtain ⟨rfl, rfl⟩ := h28
      refine r_ifneB C (pc := 31) (tgt := 48) d_F_downBy_31 (by decide) (fun c31 => ?_) (fun c31 => ?_)
      · refine r_ild2 C (pc := 48) d_F_downBy_48 ?_
        refine r_iconst C (pc := 49) d_F_downBy_49 ?_
        refine r_ild3 C (pc := 50) d_F_downBy_50 ?_
        refine r_ishl C (pc := 51) (bi_shl (by omega)) d_F_downBy_51 ?_
        refine r_ior C (pc := 52) (bi_or _ _) d_F_downBy_52 ?_
        refine r_ist2 C (pc := 53) rfl d_F_downBy_53 ?_
        refine r_iinc3 C (pc := 54) rfl d_F_downBy_54 ?_
        refine r_goto C (pc := 57) (tgt := 4) d_F_downBy_57 (by decide) ?_
        refine r_weak ?_ (ih (k + 1) (d ||| 2 ^ k) (by omega) (or_4096 hd (by omega)) (fun i hi => by
          rw [tb_or, es]
          by_cases e : i = k
          · subst e
            rw [if_pos (by omega), if_pos rfl, hbk]
            first
            | (rw [← hb0 c31.1, c31.2]; simp [c31.1])
            | (rw [← hb1 c45.1, c45.2]; simp [c45.1])
          · rw [if_neg e, hb i hi]
            by_cases q : i < k
            · rw [if_pos q, if_pos (by omega)]; simp; omega
            · rw [if_neg q, if_neg (by omega)]; simp; omega) (by omega))
        exact ⟨Or.inr rfl, Or.inr rfl, Or.inr rfl, Or.inr rfl, Or.inl rfl, trivial⟩
      · refine r_ald4 C (pc := 34) d_F_downBy_34 ?_
        refine gX_B_on C (pc := 36) hS (by omega) k_48 d_F_downBy_36 ?_
        refine r_iconst C (pc := 39) d_F_downBy_39 ?_
        refine X_ialdN C (pc := 40) hS (1) (by omega) (shB2 _) (by omega) (by omega) (by decide) d_F_downBy_40 ?_
        rw [(hkr 1 (by omega)).2.1]
        refine r_ild2 C (pc := 41) d_F_downBy_41 ?_
        refine call_F_restsOn C (pc := 42) hS (c_F_restsOn _ _ _ _ _ (by omega) (by omega)) k_293 (by decide) (Nat.le_of_ble_eq_true rfl) rfl d_F_downBy_42 (kkI (fun r42 N42 h42 => ?_))
        obtain ⟨rfl, rfl⟩ := h42
        refine r_ifeqB C (pc := 45) (tgt := 54) d_F_downBy_45 (by decide) (fun c45 => ?_) (fun c45 => ?_)
        · refine r_iinc3 C (pc := 54) rfl d_F_downBy_54 ?_
          refine r_goto C (pc := 57) (tgt := 4) d_F_downBy_57 (by decide) ?_
          refine r_weak ?_ (ih (k + 1) d (by omega) hd (fun i hi => by
            rw [es]
            by_cases e : i = k
            · subst e
              rw [if_pos (by omega), if_pos rfl, hbk]
              have z0 : (decide (S.2 4 i 0 ≠ -900009) && dn S (fun j => m.testBit j) i (S.2 4 i 0).toNat) = false := by
                by_cases q : S.2 4 i 0 ≠ -900009
                · rw [← hb0 q, Bool.eq_false_iff.mpr (fun z => c31 ⟨q, z⟩), Bool.and_false]
                · simp [q]
              have z1 : (decide (S.2 4 i 1 ≠ -900009) && dn S (fun j => m.testBit j) i (S.2 4 i 1).toNat) = false := by
                by_cases q : S.2 4 i 1 ≠ -900009
                · rw [← hb1 q, Bool.eq_false_iff.mpr (fun z => c45 ⟨q, z⟩), Bool.and_false]
                · simp [q]
              rw [z0, z1, Bool.or_false, Bool.or_false]
            · rw [if_neg e, hb i hi]
              by_cases q : i < k
              · rw [if_pos q, if_pos (by omega)]
              · rw [if_neg q, if_neg (by omega)]) (by omega))
          exact ⟨Or.inr rfl, Or.inr rfl, Or.inr rfl, Or.inr rfl, Or.inl rfl, trivial⟩
        · refine r_ild2 C (pc := 48) d_F_downBy_48 ?_
          refine r_iconst C (pc := 49) d_F_downBy_49 ?_
          refine r_ild3 C (pc := 50) d_F_downBy_50 ?_
          refine r_ishl C (pc := 51) (bi_shl (by omega)) d_F_downBy_51 ?_
          refine r_ior C (pc := 52) (bi_or _ _) d_F_downBy_52 ?_
          refine r_ist2 C (pc := 53) rfl d_F_downBy_53 ?_
          refine r_iinc3 C (pc := 54) rfl d_F_downBy_54 ?_
          refine r_goto C (pc := 57) (tgt := 4) d_F_downBy_57 (by decide) ?_
          refine r_weak ?_ (ih (k + 1) (d ||| 2 ^ k) (by omega) (or_4096 hd (by omega)) (fun i hi => by
            rw [tb_or, es]
            by_cases e : i = k
            · subst e
              rw [if_pos (by omega), if_pos rfl, hbk]
              first
              | (rw [← hb0 c31.1, c31.2]; simp [c31.1])
              | (rw [← hb1 c45.1, c45.2]; simp [c45.1])
            · rw [if_neg e, hb i hi]
              by_cases q : i < k
              · rw [if_pos q, if_pos (by omega)]; simp; omega
              · rw [if_neg q, if_neg (by omega)]; simp; omega) (by omega))
          exact ⟨Or.inr rfl, Or.inr rfl, Or.inr rfl, Or.inr rfl, Or.inl rfl, trivial⟩
set_option maxRecDepth 20000 in
theorem c_F_downBy (l : Launch) (E : zE) (M : zM) (S : zS) (hR : RX S M) (hO : ok S) (m : Nat) (hm : m < 4096) : zK l sX E y_F_downBy b_F_downBy 5 (some .int) 2 42 [.ref (E.2.2 1), .int (iI (m : Int))] M (zPi (fun r M2 => (∃ w : Nat, r = (w : Int) ∧ w < 4096 ∧ ∀ i, i < 12 → w.testBit i = if i < S.1 0 then dA S (fun j => m.testBit j) i else m.testBit i) ∧ M = M2)) := by
  refine zK.of "OldBeams$Frame" rfl (by decide) (Nat.le_of_ble_eq_true rfl) ?_
  intro G hS hE hQ hL C
  subst hE
  subst hL
  show VJ G M 0 [some (.ref (G.2.1.2.2 1)), some (.int (iI (m : Int))), none, none, none] []
  refine r_ild1 C (pc := 0) d_F_downBy_0 ?_
  refine r_ist2 C (pc := 1) rfl d_F_downBy_1 ?_
  refine r_iconst C (pc := 2) d_F_downBy_2 ?_
  refine r_ist3 C (pc := 3) rfl d_F_downBy_3 ?_
  exact l_F_downBy_4 C hS M S hR hO m hm hQ (S.1 0 + 1) 0 m (by omega) hm (fun i hi => by rw [if_neg (by omega)]) (by omega)
theorem dA_fl {S : zS} {m : Nat} (hO : ok S) (h : ∀ i, i < 12 → m.testBit i = flS S i) : dA S (fun j => m.testBit j) = dA S (flS S) := dn_cong S _ (fun j hj => h j (by have := hO.n; omega))
theorem dw_cnt {S : zS} {w m : Nat} (hO : ok S) (h : ∀ i, i < 12 → m.testBit i = flS S i) (hw : ∀ i, i < 12 → w.testBit i = if i < S.1 0 then dA S (fun j => m.testBit j) i else m.testBit i) : dcnt (fun i => w.testBit i) 12 = dcnt (dA S (flS S)) (S.1 0) := by
  have hn := hO.n
  rw [show 12 = S.1 0 + (12 - S.1 0) by omega, dcnt_ext (12 - S.1 0) (fun j h1 h2 => by
    show w.testBit j = false
    rw [hw j (by omega), if_neg (by omega), h j (by omega), fl_out hO h1 (by omega)])]
  refine dcnt_cong _ (fun j hj => ?_)
  show w.testBit j = _
  rw [hw j (by omega), if_pos hj, dA_fl hO h]
set_option maxRecDepth 20000 in
theorem c_F_isDown (l : Launch) (E : zE) (M : zM) (S : zS) (hR : RX S M) (hO : ok S) (b : Nat) (hb : b < S.1 0) : zK l sX E y_F_isDown b_F_isDown 2 (some .boolean) 3 66 [.ref (E.2.2 1), .int (iI (b : Int))] M (zPi (fun r M2 => r = zb (dA S (flS S) b = true) ∧ M = M2)) := by
  refine zK.of "OldBeams$Frame" rfl (by decide) (Nat.le_of_ble_eq_true rfl) ?_
  intro G hS hE hQ hL C
  subst hE
  subst hL
  show VJ G M 0 [some (.ref (G.2.1.2.2 1)), some (.int (iI (b : Int)))] []
  have hn := hO.n
  obtain ⟨m, em, hm, hmb⟩ := hR.2.2.2.2.1
  refine r_ald0 C (pc := 0) d_F_isDown_0 ?_
  refine r_ald0 C (pc := 1) d_F_isDown_1 ?_
  refine gX_F_fallen C (pc := 2) hS k_100 d_F_isDown_2 ?_
  rw [em]
  refine call_F_downBy C (pc := 5) hS (c_F_downBy _ _ _ S (by assumption) hO _ (by omega)) k_289 (by decide) (Nat.le_of_ble_eq_true rfl) rfl d_F_isDown_5 (kkI (fun r5 N5 h5 => ?_))
  obtain ⟨⟨w, rfl, hw, hwb⟩, rfl⟩ := h5
  refine r_ild1 C (pc := 8) d_F_isDown_8 ?_
  refine calln_O_isIn C (pc := 9) hS rfl rfl (c_O_isIn _ _ _ _ _ (by omega) (by omega)) (by decide) (Nat.le_of_ble_eq_true rfl) rfl d_F_isDown_9 (kkI (fun r9 N9 h9 => ?_))
  obtain ⟨rfl, rfl⟩ := h9
  exact r_zret C (pc := 12) hQ (by first | exact Or.inl rfl | exact Or.inr rfl | exact zb_01 _ | assumption) (⟨zb_congr (by rw [hwb b (by omega), if_pos hb, dA_fl hO hmb]), rfl⟩) d_F_isDown_12
set_option maxRecDepth 20000 in
theorem c_F_addBeam (l : Launch) (E : zE) (M : zM) (i : Nat) (hi : i < 12) (hc : M.1 1 2 = (i : Int)) (a b c d : Int) : zK l sX E y_F_addBeam b_F_addBeam 6 (some .int) 2 48 [.ref (E.2.2 1), .int (iI a), .int (iI b), .int (iI c), .int (iI d)] M (zPi (fun r M2 => r = (i : Int) ∧ zI (zI (zI (zI (zI (zI (zI (zI (zI (zI (zI M (45 + 7 * i) 0 a) (45 + 7 * i) 1 b) (45 + 7 * i) 2 c) (45 + 7 * i) 3 d) (45 + 7 * i + 1) 0 0) (45 + 7 * i + 2) 0 (-900009)) (45 + 7 * i + 3) 0 0) (45 + 7 * i + 1) 1 b) (45 + 7 * i + 2) 1 (-900009)) (45 + 7 * i + 3) 1 0) 1 2 ((i : Int) + 1) = M2)) := by
  refine zK.of "OldBeams$Frame" rfl (by decide) (Nat.le_of_ble_eq_true rfl) ?_
  intro G hS hE hQ hL C
  subst hE
  subst hL
  show VJ G M 0 [some (.ref (G.2.1.2.2 1)), some (.int (iI a)), some (.int (iI b)), some (.int (iI c)), some (.int (iI d)), none] []
  refine r_ald0 C (pc := 0) d_F_addBeam_0 ?_
  refine gX_F_beamCount C (pc := 1) hS k_97 d_F_addBeam_1 ?_
  rw [hc]
  refine r_ist5 C (pc := 4) rfl d_F_addBeam_4 ?_
  refine r_ald0 C (pc := 6) d_F_addBeam_6 ?_
  refine gX_F_beams C (pc := 7) hS k_95 d_F_addBeam_7 ?_
  refine r_ild5 C (pc := 10) d_F_addBeam_10 ?_
  refine X_beamsN C (pc := 12) hS (i) (by omega) (by omega) d_F_addBeam_12 ?_
  refine r_ild1 C (pc := 13) d_F_addBeam_13 ?_
  refine r_ild2 C (pc := 14) d_F_addBeam_14 ?_
  refine r_ild3 C (pc := 15) d_F_addBeam_15 ?_
  refine r_ild4 C (pc := 16) d_F_addBeam_16 ?_
  refine call_B_begin C (pc := 18) hS (by omega) (c_B_begin _ _ M i hi _ _ _ _) k_244 (by decide) (Nat.le_of_ble_eq_true rfl) rfl d_F_addBeam_18 (kkV (fun N18 h18 => ?_))
  subst h18
  refine r_ald0 C (pc := 21) d_F_addBeam_21 ?_
  refine r_ild5 C (pc := 22) d_F_addBeam_22 ?_
  refine r_iconst C (pc := 24) d_F_addBeam_24 ?_
  refine r_iadd C (pc := 25) d_F_addBeam_25 ?_
  refine pX_F_beamCount C (pc := 26) hS k_97 d_F_addBeam_26 ?_
  refine r_ild5 C (pc := 29) d_F_addBeam_29 ?_
  exact r_iret C (pc := 31) hQ (⟨rfl, rfl⟩) d_F_addBeam_31
set_option maxRecDepth 20000 in
theorem c_F_addLoad (l : Launch) (E : zE) (M : zM) (w : Nat) (hw : w < 40) (hc : M.1 1 8 = (w : Int)) (b p : Nat) (hb : b < 12) (hp : p < 61) (v : Int) (hv : 1 ≤ v ∧ v ≤ 9999) : zK l sX E y_F_addLoad b_F_addLoad 5 (some .int) 0 0 [.ref (E.2.2 1), .int (iI (b : Int)), .int (iI (p : Int)), .int (iI v)] M (zPi (fun r M2 => r = (w : Int) ∧ zI (zJ (zI (zI (zI (zI M 14 w b) 15 w p) 16 w v) 17 w 1) (45 + 7 * b + 4) p (M.2 (45 + 7 * b + 4) p + lI v)) 1 8 ((w : Int) + 1) = M2)) := by
  refine zK.of "OldBeams$Frame" rfl (by decide) (Nat.le_of_ble_eq_true rfl) ?_
  intro G hS hE hQ hL C
  subst hE
  subst hL
  show VJ G M 0 [some (.ref (G.2.1.2.2 1)), some (.int (iI (b : Int))), some (.int (iI (p : Int))), some (.int (iI v)), none] []
  refine r_ald0 C (pc := 0) d_F_addLoad_0 ?_
  refine gX_F_loadCount C (pc := 1) hS k_107 d_F_addLoad_1 ?_
  rw [hc]
  refine r_ist4 C (pc := 4) rfl d_F_addLoad_4 ?_
  refine r_ald0 C (pc := 6) d_F_addLoad_6 ?_
  refine gX_F_loadBeam C (pc := 7) hS k_101 d_F_addLoad_7 ?_
  refine r_ild4 C (pc := 10) d_F_addLoad_10 ?_
  refine r_ild1 C (pc := 12) d_F_addLoad_12 ?_
  refine X_iastN C (pc := 13) hS (w) (by omega) rfl (by decide) (by omega) (by decide)  d_F_addLoad_13 ?_
  refine r_ald0 C (pc := 14) d_F_addLoad_14 ?_
  refine gX_F_loadPlace C (pc := 15) hS k_102 d_F_addLoad_15 ?_
  refine r_ild4 C (pc := 18) d_F_addLoad_18 ?_
  refine r_ild2 C (pc := 20) d_F_addLoad_20 ?_
  refine X_iastN C (pc := 21) hS (w) (by omega) rfl (by decide) (by omega) (by decide)  d_F_addLoad_21 ?_
  refine r_ald0 C (pc := 22) d_F_addLoad_22 ?_
  refine gX_F_loadWeight C (pc := 23) hS k_103 d_F_addLoad_23 ?_
  refine r_ild4 C (pc := 26) d_F_addLoad_26 ?_
  refine r_ild3 C (pc := 28) d_F_addLoad_28 ?_
  refine X_iastN C (pc := 29) hS (w) (by omega) rfl (by decide) (by omega) (by decide)  d_F_addLoad_29 ?_
  refine r_ald0 C (pc := 30) d_F_addLoad_30 ?_
  refine gX_F_loadIsOn C (pc := 31) hS k_105 d_F_addLoad_31 ?_
  refine r_ild4 C (pc := 34) d_F_addLoad_34 ?_
  refine r_iconst C (pc := 36) d_F_addLoad_36 ?_
  refine X_bastN C (pc := 37) hS (w) (by omega) rfl (by decide) (by omega) (by decide) (by first | exact Or.inl rfl | exact Or.inr rfl | exact zb_01 _ | assumption)  d_F_addLoad_37 ?_
  refine r_ald0 C (pc := 38) d_F_addLoad_38 ?_
  refine gX_F_beams C (pc := 39) hS k_95 d_F_addLoad_39 ?_
  refine r_ild1 C (pc := 42) d_F_addLoad_42 ?_
  refine X_beamsN C (pc := 43) hS (b) (by omega) (by omega) d_F_addLoad_43 ?_
  refine gX_B_loaded C (pc := 44) hS (by omega) k_52 d_F_addLoad_44 ?_
  refine r_ild2 C (pc := 47) d_F_addLoad_47 ?_
  refine r_dup2 C (pc := 48) rfl rfl d_F_addLoad_48 ?_
  refine X_laldN C (pc := 49) hS (p) (by omega) (shB4 _) (by omega) (by omega) (by decide) d_F_addLoad_49 ?_
  refine r_ild3 C (pc := 50) d_F_addLoad_50 ?_
  refine r_i2l C (pc := 51) (by omega) d_F_addLoad_51 ?_
  refine r_ladd C (pc := 52) d_F_addLoad_52 ?_
  refine X_lastN C (pc := 53) hS (p) (by omega) (shB4 _) (by omega) (by omega) (by decide)  d_F_addLoad_53 ?_
  refine r_ald0 C (pc := 54) d_F_addLoad_54 ?_
  refine r_ild4 C (pc := 55) d_F_addLoad_55 ?_
  refine r_iconst C (pc := 57) d_F_addLoad_57 ?_
  refine r_iadd C (pc := 58) d_F_addLoad_58 ?_
  refine pX_F_loadCount C (pc := 59) hS k_107 d_F_addLoad_59 ?_
  refine r_ild4 C (pc := 62) d_F_addLoad_62 ?_
  exact r_iret C (pc := 64) hQ (⟨rfl, rfl⟩) d_F_addLoad_64
set_option maxRecDepth 20000 in
theorem c_F_removeLoad (l : Launch) (E : zE) (M : zM) (w : Nat) (hw : w < 40) (b p : Nat) (hb : b < 12) (hp : p < 61) (v : Int) (hv : 1 ≤ v ∧ v ≤ 9999) (eb : M.1 14 w = (b : Int)) (ep : M.1 15 w = (p : Int)) (ev : M.1 16 w = v) : zK l sX E y_F_removeLoad b_F_removeLoad 2 none 0 0 [.ref (E.2.2 1), .int (iI (w : Int))] M (zPv (fun M2 => zJ (zI M 17 w 0) (45 + 7 * b + 4) p (M.2 (45 + 7 * b + 4) p - lI v) = M2)) := by
  refine zK.of "OldBeams$Frame" rfl (by decide) (Nat.le_of_ble_eq_true rfl) ?_
  intro G hS hE hQ hL C
  subst hE
  subst hL
  show VJ G M 0 [some (.ref (G.2.1.2.2 1)), some (.int (iI (w : Int)))] []
  refine r_ald0 C (pc := 0) d_F_removeLoad_0 ?_
  refine gX_F_loadIsOn C (pc := 1) hS k_105 d_F_removeLoad_1 ?_
  refine r_ild1 C (pc := 4) d_F_removeLoad_4 ?_
  refine r_iconst C (pc := 5) d_F_removeLoad_5 ?_
  refine X_bastN C (pc := 6) hS (w) (by omega) rfl (by decide) (by omega) (by decide) (by first | exact Or.inl rfl | exact Or.inr rfl | exact zb_01 _ | assumption)  d_F_removeLoad_6 ?_
  refine r_ald0 C (pc := 7) d_F_removeLoad_7 ?_
  refine gX_F_beams C (pc := 8) hS k_95 d_F_removeLoad_8 ?_
  refine r_ald0 C (pc := 11) d_F_removeLoad_11 ?_
  refine gX_F_loadBeam C (pc := 12) hS k_101 d_F_removeLoad_12 ?_
  refine r_ild1 C (pc := 15) d_F_removeLoad_15 ?_
  refine X_ialdN C (pc := 16) hS (w) (by omega) rfl (by decide) (by omega) (by decide) d_F_removeLoad_16 ?_
  rw [zI_ne (by decide), eb]
  refine X_beamsN C (pc := 17) hS (b) (by omega) (by omega) d_F_removeLoad_17 ?_
  refine gX_B_loaded C (pc := 18) hS (by omega) k_52 d_F_removeLoad_18 ?_
  refine r_ald0 C (pc := 21) d_F_removeLoad_21 ?_
  refine gX_F_loadPlace C (pc := 22) hS k_102 d_F_removeLoad_22 ?_
  refine r_ild1 C (pc := 25) d_F_removeLoad_25 ?_
  refine X_ialdN C (pc := 26) hS (w) (by omega) rfl (by decide) (by omega) (by decide) d_F_removeLoad_26 ?_
  rw [zI_ne (by decide), ep]
  refine r_dup2 C (pc := 27) rfl rfl d_F_removeLoad_27 ?_
  refine X_laldN C (pc := 28) hS (p) (by omega) (shB4 _) (by omega) (by omega) (by decide) d_F_removeLoad_28 ?_
  refine r_ald0 C (pc := 29) d_F_removeLoad_29 ?_
  refine gX_F_loadWeight C (pc := 30) hS k_103 d_F_removeLoad_30 ?_
  refine r_ild1 C (pc := 33) d_F_removeLoad_33 ?_
  refine X_ialdN C (pc := 34) hS (w) (by omega) rfl (by decide) (by omega) (by decide) d_F_removeLoad_34 ?_
  rw [zI_ne (by decide), ev]
  refine r_i2l C (pc := 35) (by omega) d_F_removeLoad_35 ?_
  refine r_lsub C (pc := 36) d_F_removeLoad_36 ?_
  refine X_lastN C (pc := 37) hS (p) (by omega) (shB4 _) (by omega) (by omega) (by decide)  d_F_removeLoad_37 ?_
  exact r_vret C (pc := 38) hQ (rfl) d_F_removeLoad_38
set_option maxRecDepth 20000 in
theorem c_F_addProp (l : Launch) (E : zE) (M : zM) (w : Nat) (hw : w < 8) (hc : M.1 1 12 = (w : Int)) (b p v : Int) : zK l sX E y_F_addProp b_F_addProp 5 (some .int) 0 0 [.ref (E.2.2 1), .int (iI b), .int (iI p), .int (iI v)] M (zPi (fun r M2 => r = (w : Int) ∧ zI (zI (zI (zI M 18 w b) 19 w p) 20 w v) 1 12 ((w : Int) + 1) = M2)) := by
  refine zK.of "OldBeams$Frame" rfl (by decide) (Nat.le_of_ble_eq_true rfl) ?_
  intro G hS hE hQ hL C
  subst hE
  subst hL
  show VJ G M 0 [some (.ref (G.2.1.2.2 1)), some (.int (iI b)), some (.int (iI p)), some (.int (iI v)), none] []
  refine r_ald0 C (pc := 0) d_F_addProp_0 ?_
  refine gX_F_propCount C (pc := 1) hS k_112 d_F_addProp_1 ?_
  rw [hc]
  refine r_ist4 C (pc := 4) rfl d_F_addProp_4 ?_
  refine r_ald0 C (pc := 6) d_F_addProp_6 ?_
  refine gX_F_propBeam C (pc := 7) hS k_109 d_F_addProp_7 ?_
  refine r_ild4 C (pc := 10) d_F_addProp_10 ?_
  refine r_ild1 C (pc := 12) d_F_addProp_12 ?_
  refine X_iastN C (pc := 13) hS (w) (by omega) rfl (by decide) (by omega) (by decide)  d_F_addProp_13 ?_
  refine r_ald0 C (pc := 14) d_F_addProp_14 ?_
  refine gX_F_propPlace C (pc := 15) hS k_110 d_F_addProp_15 ?_
  refine r_ild4 C (pc := 18) d_F_addProp_18 ?_
  refine r_ild2 C (pc := 20) d_F_addProp_20 ?_
  refine X_iastN C (pc := 21) hS (w) (by omega) rfl (by decide) (by omega) (by decide)  d_F_addProp_21 ?_
  refine r_ald0 C (pc := 22) d_F_addProp_22 ?_
  refine gX_F_propPush C (pc := 23) hS k_111 d_F_addProp_23 ?_
  refine r_ild4 C (pc := 26) d_F_addProp_26 ?_
  refine r_ild3 C (pc := 28) d_F_addProp_28 ?_
  refine X_iastN C (pc := 29) hS (w) (by omega) rfl (by decide) (by omega) (by decide)  d_F_addProp_29 ?_
  refine r_ald0 C (pc := 30) d_F_addProp_30 ?_
  refine r_ild4 C (pc := 31) d_F_addProp_31 ?_
  refine r_iconst C (pc := 33) d_F_addProp_33 ?_
  refine r_iadd C (pc := 34) d_F_addProp_34 ?_
  refine pX_F_propCount C (pc := 35) hS k_112 d_F_addProp_35 ?_
  refine r_ild4 C (pc := 38) d_F_addProp_38 ?_
  exact r_iret C (pc := 40) hQ (⟨rfl, rfl⟩) d_F_addProp_40
