set_option maxRecDepth 20000 in
theorem c_O_push (l : Launch) (E : zE) (M : zM) (S : zS) (hR : RX S M) (hO : ok S) (b s : Int) (hb : -2147483648 ≤ b ∧ b < 2147483648) (hs : -2147483648 ≤ s ∧ s < 2147483648) : zK l sX E y_O_push b_O_push 4 (some .long) 5 125 [.ref (E.2.2 0), .int (iI b), .int (iI s)] M (zPl (fun r M2 => r = fPush S b s ∧ RX S M2)) := by
  refine zK.of "OldBeams" rfl (by decide) (Nat.le_of_ble_eq_true rfl) ?_
  intro G hS hE hQ hL C
  subst hE
  subst hL
  show VJ G M 0 [some (.ref (G.2.1.2.2 0)), some (.int (iI b)), some (.int (iI s)), none] []
  have h12 := hO.n
  have hbn := hR.n
  refine r_ald0 C (pc := 0) d_O_push_0 ?_
  refine r_ild1 C (pc := 1) d_O_push_1 ?_
  refine r_ild2 C (pc := 2) d_O_push_2 ?_
  refine r_iconst C (pc := 3) d_O_push_3 ?_
  refine r_iconst C (pc := 4) d_O_push_4 ?_
  refine call_O_within C (pc := 5) hS (c_O_within _ _ _ _ _ _ (by omega) (by omega) (by omega)) k_227 (by decide) (Nat.le_of_ble_eq_true rfl) rfl d_O_push_5 (kkI (fun r5 N5 h5 => ?_))
  obtain ⟨rfl, rfl⟩ := h5
  refine call_O_refusal C (pc := 8) hS (c_O_refusal _ _ _ S (by assumption) hO _ _ (by omega) (by first | exact zb_01 _ | omega)) k_336 (by decide) (Nat.le_of_ble_eq_true rfl) rfl d_O_push_8 (kkI (fun r8 N8 h8 => ?_))
  obtain ⟨rfl, rfl⟩ := h8
  rw [rfS_congr (Q := 0 ≤ s ∧ s ≤ 1) (by first | exact zb_1 _ | decide | omega)]
  have hrr := rfS_rng S b (0 ≤ s ∧ s ≤ 1)
  refine r_ist3 C (pc := 11) rfl d_O_push_11 ?_
  refine r_ild3 C (pc := 12) d_O_push_12 ?_
  refine r_if_eq C (pc := 13) (tgt := 19) (by omega) d_O_push_13 (by decide) (fun c13 => ?_) (fun c13 => ?_)
  · obtain ⟨⟨hb0, hb1⟩, hin, hdn⟩ := rfS_0 c13
    obtain ⟨b, rfl⟩ := Int.eq_ofNat_of_zero_le hb0
    rw [Int.toNat_natCast] at hdn
    have hb : b < S.1 0 := by omega
    refine r_ald0 C (pc := 19) d_O_push_19 ?_
    refine gX_O_frame C (pc := 20) hS k_201 d_O_push_20 ?_
    refine call_F_reckonNow C (pc := 23) hS (c_F_reckonNow _ _ M S hR hO) k_340 (by decide) (Nat.le_of_ble_eq_true rfl) rfl d_O_push_23 (kkV (fun N23 h23 => ?_))
    obtain ⟨b1, b2, b3⟩ := h23
    have hR2 := RXb hR b1
    refine r_ald0 C (pc := 26) d_O_push_26 ?_
    refine gX_O_frame C (pc := 27) hS k_201 d_O_push_27 ?_
    refine gX_F_beams C (pc := 30) hS k_96 d_O_push_30 ?_
    refine r_ild1 C (pc := 33) d_O_push_33 ?_
    refine X_beamsN C (pc := 34) hS (b) (by omega) (by omega) d_O_push_34 ?_
    refine gX_B_push C (pc := 35) hS (by omega) k_56 d_O_push_35 ?_
    refine r_ild2 C (pc := 38) d_O_push_38 ?_
    refine X_lald C (pc := 39) hS (shB6 _) (by omega) (by omega) (by omega) (by decide) d_O_push_39 ?_
    exact r_lret C (pc := 40) hQ (⟨by unfold fPush; rw [if_neg (fun q => q c13), Int.toNat_natCast]; rcases (show s = 0 ∨ s = 1 by omega) with rfl | rfl; (· rw [if_pos rfl]; exact (b3 b hb hdn).1); rw [if_neg (by decide)]; exact (b3 b hb hdn).2.1, hR2⟩) d_O_push_40
  · refine r_ild3 C (pc := 16) d_O_push_16 ?_
    refine r_i2l C (pc := 17) (by omega) d_O_push_17 ?_
    exact r_lret C (pc := 18) hQ (⟨by unfold fPush; rw [if_pos c13], hR⟩) d_O_push_18
set_option maxRecDepth 20000 in
theorem c_O_bending (l : Launch) (E : zE) (M : zM) (S : zS) (hR : RX S M) (hO : ok S) (b p : Int) (hb : -2147483648 ≤ b ∧ b < 2147483648) (hp : -2147483648 ≤ p ∧ p < 2147483648) : zK l sX E y_O_bending b_O_bending 4 (some .long) 5 125 [.ref (E.2.2 0), .int (iI b), .int (iI p)] M (zPl (fun r M2 => r = fBend S b p ∧ RX S M2)) := by
  refine zK.of "OldBeams" rfl (by decide) (Nat.le_of_ble_eq_true rfl) ?_
  intro G hS hE hQ hL C
  subst hE
  subst hL
  show VJ G M 0 [some (.ref (G.2.1.2.2 0)), some (.int (iI b)), some (.int (iI p)), none] []
  have h12 := hO.n
  have hbn := hR.n
  refine r_ald0 C (pc := 0) d_O_bending_0 ?_
  refine r_ild1 C (pc := 1) d_O_bending_1 ?_
  refine r_ald0 C (pc := 2) d_O_bending_2 ?_
  refine gX_O_frame C (pc := 3) hS k_201 d_O_bending_3 ?_
  refine r_ild1 C (pc := 6) d_O_bending_6 ?_
  refine r_ild2 C (pc := 7) d_O_bending_7 ?_
  refine call_F_hasPlace C (pc := 8) hS (c_F_hasPlace _ _ M S hR hO b p (by omega) (by omega)) k_262 (by decide) (Nat.le_of_ble_eq_true rfl) rfl d_O_bending_8 (kkI (fun r8 N8 h8 => ?_))
  obtain ⟨rfl, rfl⟩ := h8
  refine call_O_refusal C (pc := 11) hS (c_O_refusal _ _ M S hR hO _ _ (by omega) (zb_01 _)) k_336 (by decide) (Nat.le_of_ble_eq_true rfl) rfl d_O_bending_11 (kkI (fun r11 N11 h11 => ?_))
  obtain ⟨rfl, rfl⟩ := h11
  have er : rfS S b (zb ((0 ≤ b ∧ b < (S.1 0 : Int)) ∧ 0 ≤ p ∧ p ≤ S.2 2 b.toNat 1) = 1) = rfS S b (0 ≤ p ∧ p ≤ S.2 2 b.toNat 1) := by
    by_cases q : 0 ≤ b ∧ b < (S.1 0 : Int)
    · exact rfS_congr ((zb_1 _).trans ⟨fun z => z.2, fun z => ⟨q, z⟩⟩)
    · unfold rfS; rw [if_pos q, if_pos q]
  rw [er]
  have hrr := rfS_rng S b (0 ≤ p ∧ p ≤ S.2 2 b.toNat 1)
  refine r_ist3 C (pc := 14) rfl d_O_bending_14 ?_
  refine r_ild3 C (pc := 15) d_O_bending_15 ?_
  refine r_if_eq C (pc := 16) (tgt := 22) (by omega) d_O_bending_16 (by decide) (fun c16 => ?_) (fun c16 => ?_)
  · obtain ⟨⟨hb0, hb1⟩, hin, hdn⟩ := rfS_0 c16
    obtain ⟨b, rfl⟩ := Int.eq_ofNat_of_zero_le hb0
    rw [Int.toNat_natCast] at hdn
    have hb : b < S.1 0 := by omega
    rw [Int.toNat_natCast] at hin
    obtain ⟨p, rfl⟩ := Int.eq_ofNat_of_zero_le hin.1
    have hbo := hO.2.2.1 b hb
    refine r_ald0 C (pc := 22) d_O_bending_22 ?_
    refine gX_O_frame C (pc := 23) hS k_201 d_O_bending_23 ?_
    refine call_F_reckonNow C (pc := 26) hS (c_F_reckonNow _ _ M S hR hO) k_340 (by decide) (Nat.le_of_ble_eq_true rfl) rfl d_O_bending_26 (kkV (fun N26 h26 => ?_))
    obtain ⟨b1, b2, b3⟩ := h26
    have hR2 := RXb hR b1
    obtain ⟨⟨-, e1, -⟩, hrs⟩ := hR2.2.2.1 b hb
    have hL : N26.1 (45 + 7 * b) 1 = ((S.2 2 b 1).toNat : Int) := by rw [e1]; omega
    have hq0 := (hrs 0 (by omega)).1
    have hq1 := (hrs 1 (by omega)).1
    obtain ⟨-, hl6, -, -, hpl0, hpl1, -⟩ := hbo
    refine r_ald0 C (pc := 29) d_O_bending_29 ?_
    refine gX_O_frame C (pc := 30) hS k_201 d_O_bending_30 ?_
    refine gX_F_beams C (pc := 33) hS k_96 d_O_bending_33 ?_
    refine r_ild1 C (pc := 36) d_O_bending_36 ?_
    refine X_beamsN C (pc := 37) hS (b) (by omega) (by omega) d_O_bending_37 ?_
    refine r_ild2 C (pc := 38) d_O_bending_38 ?_
    refine call_B_bendingAt C (pc := 39) hS (by omega) (c_B_bendingAt _ _ _ b (by omega) _ hL (by omega) (by omega) (by omega) p (by omega)) k_384 (by decide) (Nat.le_of_ble_eq_true rfl) rfl d_O_bending_39 (kkL (fun r39 N39 h39 => ?_))
    obtain ⟨rfl, rfl⟩ := h39
    exact r_lret C (pc := 42) hQ (⟨by unfold fBend; rw [if_neg (fun q => q c16), Int.toNat_natCast, Int.toNat_natCast, hq0, hq1, (b3 b hb hdn).1, (b3 b hb hdn).2.1]; exact bdG_cong (fun x hx => b2 b hb x (by omega)), hR2⟩) d_O_bending_42
  · refine r_ild3 C (pc := 19) d_O_bending_19 ?_
    refine r_i2l C (pc := 20) (by omega) d_O_bending_20 ?_
    exact r_lret C (pc := 21) hQ (⟨by unfold fBend; rw [if_pos c16], hR⟩) d_O_bending_21
theorem grN_le (f : Nat → Int64) : ∀ n : Nat, (grN f n).2 ≤ n
  | 0 => Nat.le_refl 0
  | n + 1 => by
    have ih := grN_le f n
    rw [grN_succ]
    split
    · exact Nat.le_succ n
    · omega
set_option maxRecDepth 20000 in
theorem c_O_greatest (l : Launch) (E : zE) (M : zM) (S : zS) (hR : RX S M) (hO : ok S) (b z : Int) (hb : -2147483648 ≤ b ∧ b < 2147483648) (hz : z = 0 ∨ z = 1) : zK l sX E y_O_greatest b_O_greatest 5 (some .long) 5 125 [.ref (E.2.2 0), .int (iI b), .int (iI z)] M (zPl (fun r M2 => r = fGreat S b z ∧ RX S M2)) := by
  refine zK.of "OldBeams" rfl (by decide) (Nat.le_of_ble_eq_true rfl) ?_
  intro G hS hE hQ hL C
  subst hE
  subst hL
  show VJ G M 0 [some (.ref (G.2.1.2.2 0)), some (.int (iI b)), some (.int (iI z)), none, none] []
  have h12 := hO.n
  have hbn := hR.n
  refine r_ald0 C (pc := 0) d_O_greatest_0 ?_
  refine r_ild1 C (pc := 1) d_O_greatest_1 ?_
  refine r_iconst C (pc := 2) d_O_greatest_2 ?_
  refine call_O_refusal C (pc := 3) hS (c_O_refusal _ _ _ S (by assumption) hO _ _ (by omega) (by first | exact zb_01 _ | omega)) k_336 (by decide) (Nat.le_of_ble_eq_true rfl) rfl d_O_greatest_3 (kkI (fun r3 N3 h3 => ?_))
  obtain ⟨rfl, rfl⟩ := h3
  rw [rfS_congr (Q := True) (by first | exact zb_1 _ | decide | omega)]
  have hrr := rfS_rng S b (True)
  refine r_ist3 C (pc := 6) rfl d_O_greatest_6 ?_
  refine r_ild3 C (pc := 7) d_O_greatest_7 ?_
  refine r_if_eq C (pc := 8) (tgt := 14) (by omega) d_O_greatest_8 (by decide) (fun c8 => ?_) (fun c8 => ?_)
  · obtain ⟨⟨hb0, hb1⟩, hin, hdn⟩ := rfS_0 c8
    obtain ⟨b, rfl⟩ := Int.eq_ofNat_of_zero_le hb0
    rw [Int.toNat_natCast] at hdn
    have hb : b < S.1 0 := by omega
    refine r_ald0 C (pc := 14) d_O_greatest_14 ?_
    refine gX_O_frame C (pc := 15) hS k_201 d_O_greatest_15 ?_
    refine call_F_reckonNow C (pc := 18) hS (c_F_reckonNow _ _ M S hR hO) k_340 (by decide) (Nat.le_of_ble_eq_true rfl) rfl d_O_greatest_18 (kkV (fun N18 h18 => ?_))
    obtain ⟨b1, b2, b3⟩ := h18
    have hR2 := RXb hR b1
    refine r_ald0 C (pc := 21) d_O_greatest_21 ?_
    refine gX_O_frame C (pc := 22) hS k_201 d_O_greatest_22 ?_
    refine gX_F_beams C (pc := 25) hS k_96 d_O_greatest_25 ?_
    refine r_ild1 C (pc := 28) d_O_greatest_28 ?_
    refine X_beamsN C (pc := 29) hS (b) (by omega) (by omega) d_O_greatest_29 ?_
    refine r_ast4 C (pc := 30) rfl d_O_greatest_30 ?_
    refine r_ild2 C (pc := 32) d_O_greatest_32 ?_
    refine r_if_eq C (pc := 33) (tgt := 45) (by omega) d_O_greatest_33 (by decide) (fun c33 => ?_) (fun c33 => ?_)
    · refine r_ald4 C (pc := 45) d_O_greatest_45 ?_
      refine gX_B_greatestBending C (pc := 47) hS (by omega) k_59 d_O_greatest_47 ?_
      exact r_lret C (pc := 50) hQ (⟨by unfold fGreat; rw [if_neg (fun q => q c8), Int.toNat_natCast]; first | (rw [if_pos c33]; exact (b3 b hb hdn).2.2.1) | rw [if_neg c33], hR2⟩) d_O_greatest_50
    · refine r_ald4 C (pc := 36) d_O_greatest_36 ?_
      refine gX_B_greatestPlace C (pc := 38) hS (by omega) k_62 d_O_greatest_38 ?_
      rw [(b3 b hb hdn).2.2.2]
      have hgl := grN_le (bd S (FB S (psS S) (dA S (flS S)) b b) (P0 S (psS S) (dA S (flS S)) b) (P1 S (psS S) (dA S (flS S)) b) b) ((S.2 2 b 1).toNat + 1)
      have hbl := (hO.2.2.1 b hb).2.1
      rw [show grN (bd S (FB S (psS S) (dA S (flS S)) b b) (P0 S (psS S) (dA S (flS S)) b) (P1 S (psS S) (dA S (flS S)) b) b) ((S.2 2 b 1).toNat + 1) = GR S (psS S) (dA S (flS S)) b from rfl] at hgl
      refine r_i2l C (pc := 41) (by omega) d_O_greatest_41 ?_
      refine r_goto C (pc := 42) (tgt := 50) d_O_greatest_42 (by decide) ?_
      exact r_lret C (pc := 50) hQ (⟨by unfold fGreat; rw [if_neg (fun q => q c8), Int.toNat_natCast]; first | (rw [if_pos c33]; exact (b3 b hb hdn).2.2.1) | rw [if_neg c33], hR2⟩) d_O_greatest_50
  · refine r_ild3 C (pc := 11) d_O_greatest_11 ?_
    refine r_i2l C (pc := 12) (by omega) d_O_greatest_12 ?_
    exact r_lret C (pc := 13) hQ (⟨by unfold fGreat; rw [if_pos c8], hR⟩) d_O_greatest_13
set_option maxRecDepth 20000 in
theorem c_O_lifts (l : Launch) (E : zE) (M : zM) (S : zS) (hR : RX S M) (hO : ok S) (b : Int) (hb : -2147483648 ≤ b ∧ b < 2147483648) : zK l sX E y_O_lifts b_O_lifts 3 (some .int) 5 125 [.ref (E.2.2 0), .int (iI b)] M (zPi (fun r M2 => r = fLifts S b ∧ RX S M2)) := by
  refine zK.of "OldBeams" rfl (by decide) (Nat.le_of_ble_eq_true rfl) ?_
  intro G hS hE hQ hL C
  subst hE
  subst hL
  show VJ G M 0 [some (.ref (G.2.1.2.2 0)), some (.int (iI b)), none] []
  have h12 := hO.n
  have hbn := hR.n
  refine r_ald0 C (pc := 0) d_O_lifts_0 ?_
  refine r_ild1 C (pc := 1) d_O_lifts_1 ?_
  refine r_iconst C (pc := 2) d_O_lifts_2 ?_
  refine call_O_refusal C (pc := 3) hS (c_O_refusal _ _ _ S (by assumption) hO _ _ (by omega) (by first | exact zb_01 _ | omega)) k_336 (by decide) (Nat.le_of_ble_eq_true rfl) rfl d_O_lifts_3 (kkI (fun r3 N3 h3 => ?_))
  obtain ⟨rfl, rfl⟩ := h3
  rw [rfS_congr (Q := True) (by first | exact zb_1 _ | decide | omega)]
  have hrr := rfS_rng S b (True)
  refine r_ist2 C (pc := 6) rfl d_O_lifts_6 ?_
  refine r_ild2 C (pc := 7) d_O_lifts_7 ?_
  refine r_if_eq C (pc := 8) (tgt := 13) (by omega) d_O_lifts_8 (by decide) (fun c8 => ?_) (fun c8 => ?_)
  · obtain ⟨⟨hb0, hb1⟩, hin, hdn⟩ := rfS_0 c8
    obtain ⟨b, rfl⟩ := Int.eq_ofNat_of_zero_le hb0
    rw [Int.toNat_natCast] at hdn
    have hb : b < S.1 0 := by omega
    refine r_ald0 C (pc := 13) d_O_lifts_13 ?_
    refine gX_O_frame C (pc := 14) hS k_201 d_O_lifts_14 ?_
    refine call_F_reckonNow C (pc := 17) hS (c_F_reckonNow _ _ M S hR hO) k_340 (by decide) (Nat.le_of_ble_eq_true rfl) rfl d_O_lifts_17 (kkV (fun N17 h17 => ?_))
    obtain ⟨b1, b2, b3⟩ := h17
    have hR2 := RXb hR b1
    refine r_ald0 C (pc := 20) d_O_lifts_20 ?_
    refine gX_O_frame C (pc := 21) hS k_201 d_O_lifts_21 ?_
    refine gX_F_beams C (pc := 24) hS k_96 d_O_lifts_24 ?_
    refine r_ild1 C (pc := 27) d_O_lifts_27 ?_
    refine X_beamsN C (pc := 28) hS (b) (by omega) (by omega) d_O_lifts_28 ?_
    refine call_B_isLifted C (pc := 29) hS (by omega) (c_B_isLifted _ _ _ _ (by omega)) k_396 (by decide) (Nat.le_of_ble_eq_true rfl) rfl d_O_lifts_29 (kkI (fun r29 N29 h29 => ?_))
    obtain ⟨rfl, rfl⟩ := h29
    refine call_O_asNumber C (pc := 32) hS (c_O_asNumber _ _ _ _ (by first | exact zb_01 _ | omega)) k_282 (by decide) (Nat.le_of_ble_eq_true rfl) rfl d_O_lifts_32 (kkI (fun r32 N32 h32 => ?_))
    obtain ⟨rfl, rfl⟩ := h32
    exact r_iret C (pc := 35) hQ (⟨by unfold fLifts; rw [if_neg (fun q => q c8), Int.toNat_natCast, (b3 b hb hdn).1, (b3 b hb hdn).2.1], hR2⟩) d_O_lifts_35
  · refine r_ild2 C (pc := 11) d_O_lifts_11 ?_
    exact r_iret C (pc := 12) hQ (⟨by unfold fLifts; rw [if_pos c8], hR⟩) d_O_lifts_12
set_option maxRecDepth 20000 in
theorem c_O_holds (l : Launch) (E : zE) (M : zM) (S : zS) (hR : RX S M) (hO : ok S) (b t : Int) (hb : -2147483648 ≤ b ∧ b < 2147483648) (ht : -2147483648 ≤ t ∧ t < 2147483648) : zK l sX E y_O_holds b_O_holds 4 (some .int) 5 125 [.ref (E.2.2 0), .int (iI b), .int (iI t)] M (zPi (fun r M2 => r = fHolds S b t ∧ RX S M2)) := by
  refine zK.of "OldBeams" rfl (by decide) (Nat.le_of_ble_eq_true rfl) ?_
  intro G hS hE hQ hL C
  subst hE
  subst hL
  show VJ G M 0 [some (.ref (G.2.1.2.2 0)), some (.int (iI b)), some (.int (iI t)), none] []
  have h12 := hO.n
  have hbn := hR.n
  refine r_ald0 C (pc := 0) d_O_holds_0 ?_
  refine r_ild1 C (pc := 1) d_O_holds_1 ?_
  refine r_ild2 C (pc := 2) d_O_holds_2 ?_
  refine r_iconst C (pc := 3) d_O_holds_3 ?_
  refine r_bipush C (pc := 4) (n := 10) rfl d_O_holds_4 ?_
  refine call_O_within C (pc := 6) hS (c_O_within _ _ _ _ _ _ (by omega) (by omega) (by omega)) k_227 (by decide) (Nat.le_of_ble_eq_true rfl) rfl d_O_holds_6 (kkI (fun r6 N6 h6 => ?_))
  obtain ⟨rfl, rfl⟩ := h6
  refine call_O_refusal C (pc := 9) hS (c_O_refusal _ _ _ S (by assumption) hO _ _ (by omega) (by first | exact zb_01 _ | omega)) k_336 (by decide) (Nat.le_of_ble_eq_true rfl) rfl d_O_holds_9 (kkI (fun r9 N9 h9 => ?_))
  obtain ⟨rfl, rfl⟩ := h9
  rw [rfS_congr (Q := 0 ≤ t ∧ t ≤ 10) (by first | exact zb_1 _ | decide | omega)]
  have hrr := rfS_rng S b (0 ≤ t ∧ t ≤ 10)
  refine r_ist3 C (pc := 12) rfl d_O_holds_12 ?_
  refine r_ild3 C (pc := 13) d_O_holds_13 ?_
  refine r_if_eq C (pc := 14) (tgt := 19) (by omega) d_O_holds_14 (by decide) (fun c14 => ?_) (fun c14 => ?_)
  · obtain ⟨⟨hb0, hb1⟩, hin, hdn⟩ := rfS_0 c14
    obtain ⟨b, rfl⟩ := Int.eq_ofNat_of_zero_le hb0
    rw [Int.toNat_natCast] at hdn
    have hb : b < S.1 0 := by omega
    refine r_ald0 C (pc := 19) d_O_holds_19 ?_
    refine gX_O_frame C (pc := 20) hS k_201 d_O_holds_20 ?_
    refine call_F_reckonNow C (pc := 23) hS (c_F_reckonNow _ _ M S hR hO) k_340 (by decide) (Nat.le_of_ble_eq_true rfl) rfl d_O_holds_23 (kkV (fun N23 h23 => ?_))
    obtain ⟨b1, b2, b3⟩ := h23
    have hR2 := RXb hR b1
    refine r_ald0 C (pc := 26) d_O_holds_26 ?_
    refine gX_O_frame C (pc := 27) hS k_201 d_O_holds_27 ?_
    refine r_ild1 C (pc := 30) d_O_holds_30 ?_
    refine r_ild2 C (pc := 31) d_O_holds_31 ?_
    refine call_F_holdsWith C (pc := 32) hS (c_F_holdsWith _ _ _ S (by assumption) hO _ (by omega) _ (by omega)) k_404 (by decide) (Nat.le_of_ble_eq_true rfl) rfl d_O_holds_32 (kkI (fun r32 N32 h32 => ?_))
    obtain ⟨rfl, rfl⟩ := h32
    refine call_O_asNumber C (pc := 35) hS (c_O_asNumber _ _ _ _ (by first | exact zb_01 _ | omega)) k_282 (by decide) (Nat.le_of_ble_eq_true rfl) rfl d_O_holds_35 (kkI (fun r35 N35 h35 => ?_))
    obtain ⟨rfl, rfl⟩ := h35
    exact r_iret C (pc := 38) hQ (⟨by unfold fHolds; rw [if_neg (fun q => q c14), Int.toNat_natCast]; exact zb_congr (hJ_ho (b3 b hb hdn) t), hR2⟩) d_O_holds_38
  · refine r_ild3 C (pc := 17) d_O_holds_17 ?_
    exact r_iret C (pc := 18) hQ (⟨by unfold fHolds; rw [if_pos c14], hR⟩) d_O_holds_18
set_option maxRecDepth 20000 in
theorem l_O_needs_22 {G : zG} (C : zC G b_O_needs "OldBeams" (some .int) 4 5 125) (hS : G.1 = sX) (M : zM) (S : zS) (hR : RX S M) (hO : ok S) (b : Nat) (hb : b < S.1 0) (N : zM) (hR2 : RX S N) (hj : hJ S (psS S) (dA S (flS S)) N b) (c8 : rfS S (b : Int) True = 0) (hQ : G.2.2.1 = zPi (fun r M2 => r = fNeeds S (b : Int) ∧ RX S M2)) : ∀ (n : Nat) (j : Nat), (j ≤ 11) → (∀ t, t < j → hoB S (psS S) (dA S (flS S)) b (t : Int) = false) → (11 - j < n) → VJ G N 22 [some (.ref (zad G 0)), some (.int (iI (b : Int))), none, some (.int (iI (j : Int)))] [] := by
  intro n
  induction n with
  | zero =>
    intro j hjn hp hn
    exact absurd hn (by omega)
  | succ n ih =>
    intro j hjn hp hn
    have hh := hJ_ho hj (j : Int)
    refine r_ild3 C (pc := 22) d_O_needs_22 ?_
    refine r_bipush C (pc := 23) (n := 11) rfl d_O_needs_23 ?_
    refine r_icmp_ge C (pc := 25) (tgt := 48) (by omega) (by omega) d_O_needs_25 (by decide) (fun c25 => ?_) (fun c25 => ?_)
    · refine r_ldc C (pc := 48) (z := (-900009)) k_267 rfl d_O_needs_48 ?_
      exact r_iret C (pc := 50) hQ (⟨by unfold fNeeds; rw [if_neg (fun q => q c8), Int.toNat_natCast, fsN_none (p := fun t => hoB S (psS S) (dA S (flS S)) b (t : Int)) 11 (fun t ht => hp t (by omega)), if_neg (by omega)], hR2⟩) d_O_needs_50
    · refine r_ald0 C (pc := 28) d_O_needs_28 ?_
      refine gX_O_frame C (pc := 29) hS k_201 d_O_needs_29 ?_
      refine r_ild1 C (pc := 32) d_O_needs_32 ?_
      refine r_ild3 C (pc := 33) d_O_needs_33 ?_
      refine call_F_holdsWith C (pc := 34) hS (c_F_holdsWith _ _ _ S (by assumption) hO _ (by omega) _ (by omega)) k_404 (by decide) (Nat.le_of_ble_eq_true rfl) rfl d_O_needs_34 (kkI (fun r34 N34 h34 => ?_))
      obtain ⟨rfl, rfl⟩ := h34
      refine r_ifeqB C (pc := 37) (tgt := 42) d_O_needs_37 (by decide) (fun c37 => ?_) (fun c37 => ?_)
      · refine r_iinc3 C (pc := 42) rfl d_O_needs_42 ?_
        refine r_goto C (pc := 45) (tgt := 22) d_O_needs_45 (by decide) ?_
        exact ih (j + 1) (by omega) (fun t ht => by
          rcases Nat.lt_or_ge t j with w | w
          · exact hp t w
          · rw [show t = j by omega]; exact Bool.eq_false_iff.mpr (fun q => c37 (hh.mpr q))) (by omega)
      · refine r_ild3 C (pc := 40) d_O_needs_40 ?_
        exact r_iret C (pc := 41) hQ (⟨by unfold fNeeds; rw [if_neg (fun q => q c8), Int.toNat_natCast, fsN_at (p := fun t => hoB S (psS S) (dA S (flS S)) b (t : Int)) (hh.mp c37) hp 11 (by omega), if_pos (by omega)], hR2⟩) d_O_needs_41
set_option maxRecDepth 20000 in
theorem c_O_needs (l : Launch) (E : zE) (M : zM) (S : zS) (hR : RX S M) (hO : ok S) (b : Int) (hb : -2147483648 ≤ b ∧ b < 2147483648) : zK l sX E y_O_needs b_O_needs 4 (some .int) 5 125 [.ref (E.2.2 0), .int (iI b)] M (zPi (fun r M2 => r = fNeeds S b ∧ RX S M2)) := by
  refine zK.of "OldBeams" rfl (by decide) (Nat.le_of_ble_eq_true rfl) ?_
  intro G hS hE hQ hL C
  subst hE
  subst hL
  show VJ G M 0 [some (.ref (G.2.1.2.2 0)), some (.int (iI b)), none, none] []
  have h12 := hO.n
  have hbn := hR.n
  refine r_ald0 C (pc := 0) d_O_needs_0 ?_
  refine r_ild1 C (pc := 1) d_O_needs_1 ?_
  refine r_iconst C (pc := 2) d_O_needs_2 ?_
  refine call_O_refusal C (pc := 3) hS (c_O_refusal _ _ _ S (by assumption) hO _ _ (by omega) (by first | exact zb_01 _ | omega)) k_336 (by decide) (Nat.le_of_ble_eq_true rfl) rfl d_O_needs_3 (kkI (fun r3 N3 h3 => ?_))
  obtain ⟨rfl, rfl⟩ := h3
  rw [rfS_congr (Q := True) (by first | exact zb_1 _ | decide | omega)]
  have hrr := rfS_rng S b (True)
  refine r_ist2 C (pc := 6) rfl d_O_needs_6 ?_
  refine r_ild2 C (pc := 7) d_O_needs_7 ?_
  refine r_if_eq C (pc := 8) (tgt := 13) (by omega) d_O_needs_8 (by decide) (fun c8 => ?_) (fun c8 => ?_)
  · obtain ⟨⟨hb0, hb1⟩, hin, hdn⟩ := rfS_0 c8
    obtain ⟨b, rfl⟩ := Int.eq_ofNat_of_zero_le hb0
    rw [Int.toNat_natCast] at hdn
    have hb : b < S.1 0 := by omega
    refine r_ald0 C (pc := 13) d_O_needs_13 ?_
    refine gX_O_frame C (pc := 14) hS k_201 d_O_needs_14 ?_
    refine call_F_reckonNow C (pc := 17) hS (c_F_reckonNow _ _ M S hR hO) k_340 (by decide) (Nat.le_of_ble_eq_true rfl) rfl d_O_needs_17 (kkV (fun N17 h17 => ?_))
    obtain ⟨b1, b2, b3⟩ := h17
    have hR2 := RXb hR b1
    refine r_iconst C (pc := 20) d_O_needs_20 ?_
    refine r_ist3 C (pc := 21) rfl d_O_needs_21 ?_
    refine r_weak ?_ (l_O_needs_22 C hS M S hR hO b hb N17 hR2 (b3 b hb hdn) c8 hQ 12 0 (by omega) (fun t ht => absurd ht (Nat.not_lt_zero t)) (by omega))
    exact ⟨Or.inr rfl, Or.inr rfl, Or.inl rfl, Or.inr rfl, trivial⟩
  · refine r_ild2 C (pc := 11) d_O_needs_11 ?_
    exact r_iret C (pc := 12) hQ (⟨by unfold fNeeds; rw [if_pos c8], hR⟩) d_O_needs_12
set_option maxRecDepth 20000 in
theorem c_O_odds (l : Launch) (E : zE) (M : zM) (S : zS) (hR : RX S M) (hO : ok S) (b t y : Int) (hb : -2147483648 ≤ b ∧ b < 2147483648) (ht : -2147483648 ≤ t ∧ t < 2147483648) (hy : -2147483648 ≤ y ∧ y < 2147483648) : zK l sX E y_O_odds b_O_odds 4 (some .long) 3 81 [.ref (E.2.2 0), .int (iI b), .int (iI t), .int (iI y)] M (zPl (fun r M2 => r = fOdds S b t y ∧ RX S M2)) := by
  refine zK.of "OldBeams" rfl (by decide) (Nat.le_of_ble_eq_true rfl) ?_
  intro G hS hE hQ hL C
  subst hE
  subst hL
  show VJ G M 0 [some (.ref (G.2.1.2.2 0)), some (.int (iI b)), some (.int (iI t)), some (.int (iI y))] []
  have h12 := hO.n
  have hbn := hR.n
  refine r_ald0 C (pc := 0) d_O_odds_0 ?_
  refine gX_O_frame C (pc := 1) hS k_201 d_O_odds_1 ?_
  refine r_ild1 C (pc := 4) d_O_odds_4 ?_
  refine call_F_hasBeam C (pc := 5) hS (c_F_hasBeam _ _ M b (by omega) (by omega)) k_257 (by decide) (Nat.le_of_ble_eq_true rfl) rfl d_O_odds_5 (kkI (fun r5 N5 h5 => ?_))
  obtain ⟨rfl, rfl⟩ := h5
  rw [hbn]
  refine r_ifneB C (pc := 8) (tgt := 15) d_O_odds_8 (by decide) (fun c8 => ?_) (fun c8 => ?_)
  · obtain ⟨b, rfl⟩ := Int.eq_ofNat_of_zero_le c8.1
    refine r_ild2 C (pc := 15) d_O_odds_15 ?_
    refine r_iconst C (pc := 16) d_O_odds_16 ?_
    refine r_bipush C (pc := 17) (n := 10) rfl d_O_odds_17 ?_
    refine call_O_within C (pc := 19) hS (c_O_within _ _ _ _ _ _ (by omega) (by omega) (by omega)) k_227 (by decide) (Nat.le_of_ble_eq_true rfl) rfl d_O_odds_19 (kkI (fun r19 N19 h19 => ?_))
    obtain ⟨rfl, rfl⟩ := h19
    refine r_ifeqB C (pc := 22) (tgt := 32) d_O_odds_22 (by decide) (fun c22 => ?_) (fun c22 => ?_)
    · refine r_ldc2 C (pc := 32) k_454 d_O_odds_32 ?_
      exact r_lret C (pc := 35) hQ (⟨by unfold fOdds; rw [if_neg (by omega), if_pos (by omega)], hR⟩) d_O_odds_35
    · refine r_ild3 C (pc := 25) d_O_odds_25 ?_
      refine call_O_isYear C (pc := 26) hS (c_O_isYear _ _ _ _ (by omega)) k_236 (by decide) (Nat.le_of_ble_eq_true rfl) rfl d_O_odds_26 (kkI (fun r26 N26 h26 => ?_))
      obtain ⟨rfl, rfl⟩ := h26
      refine r_ifneB C (pc := 29) (tgt := 36) d_O_odds_29 (by decide) (fun c29 => ?_) (fun c29 => ?_)
      · refine r_ald0 C (pc := 36) d_O_odds_36 ?_
        refine gX_O_looks C (pc := 37) hS k_202 d_O_odds_37 ?_
        refine r_ild1 C (pc := 40) d_O_odds_40 ?_
        refine r_ild3 C (pc := 41) d_O_odds_41 ?_
        refine call_K_reckonOdds C (pc := 42) hS (c_K_reckonOdds _ _ M S hR hO b (by omega) y (by omega)) k_455 (by decide) (Nat.le_of_ble_eq_true rfl) rfl d_O_odds_42 (kkI (fun r42 N42 h42 => ?_))
        obtain ⟨a0, a1, a2, a3⟩ := h42
        have hR2 := RXk hR (kX_J a1 (fun a q => a2 a (by omega) (by omega)))
        refine r_pop C (pc := 45) rfl d_O_odds_45 ?_
        refine r_ald0 C (pc := 46) d_O_odds_46 ?_
        refine gX_O_looks C (pc := 47) hS k_202 d_O_odds_47 ?_
        refine gX_K_known C (pc := 50) hS k_167 d_O_odds_50 ?_
        refine r_ild2 C (pc := 53) d_O_odds_53 ?_
        refine X_lald C (pc := 54) hS rfl (by decide) (by omega) (by omega) (by decide) d_O_odds_54 ?_
        exact r_lret C (pc := 55) hQ (⟨by unfold fOdds; rw [if_neg (by omega), if_neg (by omega), Int.toNat_natCast]; exact a3 t.toNat (by omega), hR2⟩) d_O_odds_55
      · refine r_ldc2 C (pc := 32) k_454 d_O_odds_32 ?_
        exact r_lret C (pc := 35) hQ (⟨by unfold fOdds; rw [if_neg (by omega), if_pos (by omega)], hR⟩) d_O_odds_35
  · refine r_ldc2 C (pc := 11) k_453 d_O_odds_11 ?_
    exact r_lret C (pc := 14) hQ (⟨by unfold fOdds; rw [if_pos c8], hR⟩) d_O_odds_14
set_option maxRecDepth 20000 in
theorem c_O_quarrel (l : Launch) (E : zE) (M : zM) (S : zS) (hR : RX S M) (hO : ok S) (b y : Int) (hb : -2147483648 ≤ b ∧ b < 2147483648) (hy : -2147483648 ≤ y ∧ y < 2147483648) : zK l sX E y_O_quarrel b_O_quarrel 3 (some .int) 3 81 [.ref (E.2.2 0), .int (iI b), .int (iI y)] M (zPi (fun r M2 => r = fQuar S b y ∧ RX S M2)) := by
  refine zK.of "OldBeams" rfl (by decide) (Nat.le_of_ble_eq_true rfl) ?_
  intro G hS hE hQ hL C
  subst hE
  subst hL
  show VJ G M 0 [some (.ref (G.2.1.2.2 0)), some (.int (iI b)), some (.int (iI y))] []
  have h12 := hO.n
  have hbn := hR.n
  refine r_ald0 C (pc := 0) d_O_quarrel_0 ?_
  refine gX_O_frame C (pc := 1) hS k_201 d_O_quarrel_1 ?_
  refine r_ild1 C (pc := 4) d_O_quarrel_4 ?_
  refine call_F_hasBeam C (pc := 5) hS (c_F_hasBeam _ _ M b (by omega) (by omega)) k_257 (by decide) (Nat.le_of_ble_eq_true rfl) rfl d_O_quarrel_5 (kkI (fun r5 N5 h5 => ?_))
  obtain ⟨rfl, rfl⟩ := h5
  rw [hbn]
  refine r_ifneB C (pc := 8) (tgt := 14) d_O_quarrel_8 (by decide) (fun c8 => ?_) (fun c8 => ?_)
  · obtain ⟨b, rfl⟩ := Int.eq_ofNat_of_zero_le c8.1
    refine r_ild2 C (pc := 14) d_O_quarrel_14 ?_
    refine call_O_isYear C (pc := 15) hS (c_O_isYear _ _ _ _ (by omega)) k_236 (by decide) (Nat.le_of_ble_eq_true rfl) rfl d_O_quarrel_15 (kkI (fun r15 N15 h15 => ?_))
    obtain ⟨rfl, rfl⟩ := h15
    refine r_ifneB C (pc := 18) (tgt := 24) d_O_quarrel_18 (by decide) (fun c18 => ?_) (fun c18 => ?_)
    · refine r_ald0 C (pc := 24) d_O_quarrel_24 ?_
      refine gX_O_looks C (pc := 25) hS k_202 d_O_quarrel_25 ?_
      refine r_ild1 C (pc := 28) d_O_quarrel_28 ?_
      refine r_ild2 C (pc := 29) d_O_quarrel_29 ?_
      refine call_K_reckonOdds C (pc := 30) hS (c_K_reckonOdds _ _ M S hR hO b (by omega) y (by omega)) k_455 (by decide) (Nat.le_of_ble_eq_true rfl) rfl d_O_quarrel_30 (kkI (fun r30 N30 h30 => ?_))
      obtain ⟨a0, a1, a2, a3⟩ := h30
      have hR2 := RXk hR (kX_J a1 (fun a q => a2 a (by omega) (by omega)))
      exact r_iret C (pc := 33) hQ (⟨by unfold fQuar; rw [if_neg (by omega), if_neg (by omega), Int.toNat_natCast]; exact a0, hR2⟩) d_O_quarrel_33
    · refine r_ldc C (pc := 21) (z := (-900002)) k_231 rfl d_O_quarrel_21 ?_
      exact r_iret C (pc := 23) hQ (⟨by unfold fQuar; rw [if_neg (by omega), if_pos (by omega)], hR⟩) d_O_quarrel_23
  · refine r_ldc C (pc := 11) (z := (-900001)) k_230 rfl d_O_quarrel_11 ?_
    exact r_iret C (pc := 13) hQ (⟨by unfold fQuar; rw [if_pos c8], hR⟩) d_O_quarrel_13
set_option maxRecDepth 20000 in
theorem c_O_share (l : Launch) (E : zE) (M : zM) (S : zS) (hR : RX S M) (hO : ok S) (b y l9 z : Int) (hb : -2147483648 ≤ b ∧ b < 2147483648) (hy : -2147483648 ≤ y ∧ y < 2147483648) (hl9 : -2147483648 ≤ l9 ∧ l9 < 2147483648) (hz : z = 0 ∨ z = 1) : zK l sX E y_O_share b_O_share 5 (some .int) 4 106 [.ref (E.2.2 0), .int (iI b), .int (iI y), .int (iI l9), .int (iI z)] M (zPi (fun r M2 => r = fShare S b y l9 z ∧ RX S M2)) := by
  refine zK.of "OldBeams" rfl (by decide) (Nat.le_of_ble_eq_true rfl) ?_
  intro G hS hE hQ hL C
  subst hE
  subst hL
  show VJ G M 0 [some (.ref (G.2.1.2.2 0)), some (.int (iI b)), some (.int (iI y)), some (.int (iI l9)), some (.int (iI z))] []
  have h12 := hO.n
  have hbn := hR.n
  refine r_ald0 C (pc := 0) d_O_share_0 ?_
  refine gX_O_frame C (pc := 1) hS k_201 d_O_share_1 ?_
  refine r_ild1 C (pc := 4) d_O_share_4 ?_
  refine call_F_hasBeam C (pc := 5) hS (c_F_hasBeam _ _ M b (by omega) (by omega)) k_257 (by decide) (Nat.le_of_ble_eq_true rfl) rfl d_O_share_5 (kkI (fun r5 N5 h5 => ?_))
  obtain ⟨rfl, rfl⟩ := h5
  rw [hbn]
  refine r_ifneB C (pc := 8) (tgt := 14) d_O_share_8 (by decide) (fun c8 => ?_) (fun c8 => ?_)
  · obtain ⟨b, rfl⟩ := Int.eq_ofNat_of_zero_le c8.1
    refine r_ild2 C (pc := 14) d_O_share_14 ?_
    refine r_ild3 C (pc := 15) d_O_share_15 ?_
    refine call_O_areYears C (pc := 16) hS (c_O_areYears _ _ _ _ _ (by omega) (by omega)) k_475 (by decide) (Nat.le_of_ble_eq_true rfl) rfl d_O_share_16 (kkI (fun r16 N16 h16 => ?_))
    obtain ⟨rfl, rfl⟩ := h16
    refine r_ifneB C (pc := 19) (tgt := 25) d_O_share_19 (by decide) (fun c19 => ?_) (fun c19 => ?_)
    · refine r_ald0 C (pc := 25) d_O_share_25 ?_
      refine gX_O_frame C (pc := 26) hS k_201 d_O_share_26 ?_
      refine r_ild1 C (pc := 29) d_O_share_29 ?_
      refine r_ald0 C (pc := 30) d_O_share_30 ?_
      refine gX_O_looks C (pc := 31) hS k_202 d_O_share_31 ?_
      refine r_ild1 C (pc := 34) d_O_share_34 ?_
      refine r_ild2 C (pc := 35) d_O_share_35 ?_
      refine r_ild4 C (pc := 36) d_O_share_36 ?_
      refine call_K_knownShare C (pc := 38) hS (c_K_knownShare _ _ M S hR hO b (by omega) y (by omega) z hz) k_478 (by decide) (Nat.le_of_ble_eq_true rfl) rfl d_O_share_38 (kkI (fun r38 N38 h38 => ?_))
      obtain ⟨rfl, a1, a2, a3⟩ := h38
      have hR2 := RXk hR (kX_J a1 (fun a q => a2 a (by omega) (by omega)))
      have hks := KS_le hO (b := b) (by omega) y (decide (z = 1))
      refine r_ild3 C (pc := 41) d_O_share_41 ?_
      refine r_ild2 C (pc := 42) d_O_share_42 ?_
      refine r_isub C (pc := 43) d_O_share_43 ?_
      refine call_F_shareLeft C (pc := 44) hS (c_F_shareLeft _ _ _ S hR2 hO b (by omega) _ _ (by omega) (by omega)) k_483 (by decide) (Nat.le_of_ble_eq_true rfl) rfl d_O_share_44 (kkI (fun r44 N44 h44 => ?_))
      obtain ⟨rfl, rfl⟩ := h44
      exact r_iret C (pc := 47) hQ (⟨by unfold fShare; rw [if_neg (by omega), if_neg (by omega), Int.toNat_natCast], hR2⟩) d_O_share_47
    · refine r_ldc C (pc := 22) (z := (-900002)) k_231 rfl d_O_share_22 ?_
      exact r_iret C (pc := 24) hQ (⟨by unfold fShare; rw [if_neg (by omega), if_pos (by omega)], hR⟩) d_O_share_24
  · refine r_ldc C (pc := 11) (z := (-900001)) k_230 rfl d_O_share_11 ?_
    exact r_iret C (pc := 13) hQ (⟨by unfold fShare; rw [if_pos c8], hR⟩) d_O_share_13
set_option maxRecDepth 20000 in
theorem c_O_stands (l : Launch) (E : zE) (M : zM) (S : zS) (hR : RX S M) (hO : ok S) (y l9 z : Int) (hy : -2147483648 ≤ y ∧ y < 2147483648) (hl9 : -2147483648 ≤ l9 ∧ l9 < 2147483648) (hz : z = 0 ∨ z = 1) : zK l sX E y_O_stands b_O_stands 4 (some .int) 5 129 [.ref (E.2.2 0), .int (iI y), .int (iI l9), .int (iI z)] M (zPi (fun r M2 => r = fStands S y l9 z ∧ RX S M2)) := by
  refine zK.of "OldBeams" rfl (by decide) (Nat.le_of_ble_eq_true rfl) ?_
  intro G hS hE hQ hL C
  subst hE
  subst hL
  show VJ G M 0 [some (.ref (G.2.1.2.2 0)), some (.int (iI y)), some (.int (iI l9)), some (.int (iI z))] []
  have h12 := hO.n
  have hbn := hR.n
  refine r_ild1 C (pc := 0) d_O_stands_0 ?_
  refine r_ild2 C (pc := 1) d_O_stands_1 ?_
  refine call_O_areYears C (pc := 2) hS (c_O_areYears _ _ _ _ _ (by omega) (by omega)) k_475 (by decide) (Nat.le_of_ble_eq_true rfl) rfl d_O_stands_2 (kkI (fun r2 N2 h2 => ?_))
  obtain ⟨rfl, rfl⟩ := h2
  refine r_ifneB C (pc := 5) (tgt := 11) d_O_stands_5 (by decide) (fun c5 => ?_) (fun c5 => ?_)
  · refine r_ald0 C (pc := 11) d_O_stands_11 ?_
    refine r_ild1 C (pc := 12) d_O_stands_12 ?_
    refine r_ild3 C (pc := 13) d_O_stands_13 ?_
    refine call_O_takeShares C (pc := 14) hS (c_O_takeShares _ _ M S hR hO y (by omega) z (by first | assumption | decide)) k_494 (by decide) (Nat.le_of_ble_eq_true rfl) rfl d_O_stands_14 (kkV (fun N14 h14 => ?_))
    obtain ⟨s1, s2, s3⟩ := h14
    have hRs := RXk hR (kX_ts s2 s3)
    refine r_ald0 C (pc := 17) d_O_stands_17 ?_
    refine gX_O_frame C (pc := 18) hS k_201 d_O_stands_18 ?_
    refine call_F_reckonNow C (pc := 21) hS (c_F_reckonNow _ _ N14 S hRs hO) k_340 (by decide) (Nat.le_of_ble_eq_true rfl) rfl d_O_stands_21 (kkV (fun N21 h21 => ?_))
    obtain ⟨b1, b2, b3⟩ := h21
    have hR2 := RXb hRs b1
    refine r_ald0 C (pc := 24) d_O_stands_24 ?_
    refine r_ild2 C (pc := 25) d_O_stands_25 ?_
    refine r_ild1 C (pc := 26) d_O_stands_26 ?_
    refine r_isub C (pc := 27) d_O_stands_27 ?_
    refine call_O_standsAfter C (pc := 28) hS (c_O_standsAfter _ _ N21 S hR2 hO (fun b => (KS S b y (decide (z = 1)) : Int)) (fun b hb => ⟨(b1.1 6 b (by omega)).trans (s1 b hb), by omega, by have := KS_le hO hb y (decide (z = 1)); omega⟩) _ (by omega) b3) k_498 (by decide) (Nat.le_of_ble_eq_true rfl) rfl d_O_stands_28 (kkI (fun r28 N28 h28 => ?_))
    obtain ⟨rfl, rfl⟩ := h28
    refine call_O_asNumber C (pc := 31) hS (c_O_asNumber _ _ _ _ (by first | exact zb_01 _ | omega)) k_282 (by decide) (Nat.le_of_ble_eq_true rfl) rfl d_O_stands_31 (kkI (fun r31 N31 h31 => ?_))
    obtain ⟨rfl, rfl⟩ := h31
    exact r_iret C (pc := 34) hQ (⟨by unfold fStands; rw [if_neg (by omega)]; rfl, hR2⟩) d_O_stands_34
  · refine r_ldc C (pc := 8) (z := (-900002)) k_231 rfl d_O_stands_8 ?_
    exact r_iret C (pc := 10) hQ (⟨by unfold fStands; rw [if_pos (by omega)], hR⟩) d_O_stands_10
set_option maxRecDepth 20000 in
theorem l_O_until_29 {G : zG} (C : zC G b_O_until "OldBeams" (some .int) 5 5 129) (hS : G.1 = sX) (M : zM) (S : zS) (hR : RX S M) (hO : ok S) (y : Int) (hy : 0 ≤ y ∧ y ≤ 500) (z : Int) (hz : z = 0 ∨ z = 1) (N : zM) (hR2 : RX S N) (hsh : ∀ b, b < S.1 0 → N.1 6 b = (KS S b y (decide (z = 1)) : Int) ∧ 0 ≤ (KS S b y (decide (z = 1)) : Int) ∧ (KS S b y (decide (z = 1)) : Int) ≤ 10) (hj : ∀ b, b < S.1 0 → dA S (flS S) b = false → hJ S (psS S) (dA S (flS S)) N b) (hQ : G.2.2.1 = zPi (fun r M2 => r = fUntil S y z ∧ RX S M2)) : ∀ (n : Nat) (j : Nat), (y + (j : Int) ≤ 501) → (∀ i, i < j → stB S y (decide (z = 1)) (i : Int) = true) → (501 - j < n) → VJ G N 29 [some (.ref (zad G 0)), some (.int (iI y)), some (.int (iI z)), some (.int (iI (if j = 0 then -900009 else y + (j : Int) - 1))), some (.int (iI (y + (j : Int))))] [] := by
  intro n
  induction n with
  | zero =>
    intro j hj2 hp hn
    exact absurd hn (by omega)
  | succ n ih =>
    intro j hj2 hp hn
    refine r_ild4 C (pc := 29) d_O_until_29 ?_
    refine r_sipush C (pc := 31) (n := 500) rfl d_O_until_31 ?_
    refine r_icmp_gt C (pc := 34) (tgt := 60) (by omega) (by omega) d_O_until_34 (by decide) (fun c34 => ?_) (fun c34 => ?_)
    · refine r_ild3 C (pc := 60) d_O_until_60 ?_
      exact r_iret C (pc := 61) hQ (by
      have hu : utN S y (decide (z = 1)) = j := by
        unfold utN
        first
        | exact fsN_at (by show (!stB S y (decide (z = 1)) (j : Int)) = true; rw [show stB S y (decide (z = 1)) (j : Int) = false from Bool.eq_false_iff.mpr c45]; rfl) (fun i hi => by show (!stB S y (decide (z = 1)) (i : Int)) = false; rw [hp i hi]; rfl) _ (by omega)
        | (rw [show 501 - y.toNat = j by omega]; exact fsN_none j (fun i hi => by show (!stB S y (decide (z = 1)) (i : Int)) = false; rw [hp i hi]; rfl))
      exact ⟨by unfold fUntil; rw [if_neg (show ¬ ¬ (0 ≤ y ∧ y ≤ 500) by omega), hu], hR2⟩) d_O_until_61
    · refine r_ald0 C (pc := 37) d_O_until_37 ?_
      refine r_ild4 C (pc := 38) d_O_until_38 ?_
      refine r_ild1 C (pc := 40) d_O_until_40 ?_
      refine r_isub C (pc := 41) d_O_until_41 ?_
      refine r_topZ (b := (j : Int)) (by omega) ?_
      refine call_O_standsAfter C (pc := 42) hS (c_O_standsAfter _ _ N S hR2 hO (fun b => (KS S b y (decide (z = 1)) : Int)) hsh (j : Int) (by omega) hj) k_498 (by decide) (Nat.le_of_ble_eq_true rfl) rfl d_O_until_42 (kkI (fun r42 N42 h42 => ?_))
      obtain ⟨rfl, rfl⟩ := h42
      refine r_ifneB C (pc := 45) (tgt := 51) d_O_until_45 (by decide) (fun c45 => ?_) (fun c45 => ?_)
      · refine r_ild4 C (pc := 51) d_O_until_51 ?_
        refine r_ist3 C (pc := 53) rfl d_O_until_53 ?_
        refine r_iinc4 C (pc := 54) rfl d_O_until_54 ?_
        refine r_goto C (pc := 57) (tgt := 29) d_O_until_57 (by decide) ?_
        refine r_weak ?_ (ih (j + 1) (by omega) (fun i hi => by
          rcases Nat.lt_or_ge i j with w | w
          · exact hp i w
          · rw [show i = j by omega]; exact c45) (by omega))
        exact ⟨Or.inr rfl, Or.inr rfl, Or.inr rfl, Or.inr (by rw [if_neg (by omega), show y + ((j + 1 : Nat) : Int) - 1 = y + (j : Int) by omega]), Or.inr (by rw [show y + ((j + 1 : Nat) : Int) = y + (j : Int) + 1 by omega]), trivial⟩
      · refine r_goto C (pc := 48) (tgt := 60) d_O_until_48 (by decide) ?_
        refine r_ild3 C (pc := 60) d_O_until_60 ?_
        exact r_iret C (pc := 61) hQ (by
      have hu : utN S y (decide (z = 1)) = j := by
        unfold utN
        first
        | exact fsN_at (by show (!stB S y (decide (z = 1)) (j : Int)) = true; rw [show stB S y (decide (z = 1)) (j : Int) = false from Bool.eq_false_iff.mpr c45]; rfl) (fun i hi => by show (!stB S y (decide (z = 1)) (i : Int)) = false; rw [hp i hi]; rfl) _ (by omega)
        | (rw [show 501 - y.toNat = j by omega]; exact fsN_none j (fun i hi => by show (!stB S y (decide (z = 1)) (i : Int)) = false; rw [hp i hi]; rfl))
      exact ⟨by unfold fUntil; rw [if_neg (show ¬ ¬ (0 ≤ y ∧ y ≤ 500) by omega), hu], hR2⟩) d_O_until_61
set_option maxRecDepth 20000 in
theorem c_O_until (l : Launch) (E : zE) (M : zM) (S : zS) (hR : RX S M) (hO : ok S) (y z : Int) (hy : -2147483648 ≤ y ∧ y < 2147483648) (hz : z = 0 ∨ z = 1) : zK l sX E y_O_until b_O_until 5 (some .int) 5 129 [.ref (E.2.2 0), .int (iI y), .int (iI z)] M (zPi (fun r M2 => r = fUntil S y z ∧ RX S M2)) := by
  refine zK.of "OldBeams" rfl (by decide) (Nat.le_of_ble_eq_true rfl) ?_
  intro G hS hE hQ hL C
  subst hE
  subst hL
  show VJ G M 0 [some (.ref (G.2.1.2.2 0)), some (.int (iI y)), some (.int (iI z)), none, none] []
  have h12 := hO.n
  have hbn := hR.n
  refine r_ild1 C (pc := 0) d_O_until_0 ?_
  refine call_O_isYear C (pc := 1) hS (c_O_isYear _ _ _ _ (by omega)) k_236 (by decide) (Nat.le_of_ble_eq_true rfl) rfl d_O_until_1 (kkI (fun r1 N1 h1 => ?_))
  obtain ⟨rfl, rfl⟩ := h1
  refine r_ifneB C (pc := 4) (tgt := 10) d_O_until_4 (by decide) (fun c4 => ?_) (fun c4 => ?_)
  · refine r_ald0 C (pc := 10) d_O_until_10 ?_
    refine r_ild1 C (pc := 11) d_O_until_11 ?_
    refine r_ild2 C (pc := 12) d_O_until_12 ?_
    refine call_O_takeShares C (pc := 13) hS (c_O_takeShares _ _ M S hR hO y (by omega) z (by first | assumption | decide)) k_494 (by decide) (Nat.le_of_ble_eq_true rfl) rfl d_O_until_13 (kkV (fun N13 h13 => ?_))
    obtain ⟨s1, s2, s3⟩ := h13
    have hRs := RXk hR (kX_ts s2 s3)
    refine r_ald0 C (pc := 16) d_O_until_16 ?_
    refine gX_O_frame C (pc := 17) hS k_201 d_O_until_17 ?_
    refine call_F_reckonNow C (pc := 20) hS (c_F_reckonNow _ _ N13 S hRs hO) k_340 (by decide) (Nat.le_of_ble_eq_true rfl) rfl d_O_until_20 (kkV (fun N20 h20 => ?_))
    obtain ⟨b1, b2, b3⟩ := h20
    have hR2 := RXb hRs b1
    refine r_ldc C (pc := 23) (z := (-900009)) k_267 rfl d_O_until_23 ?_
    refine r_ist3 C (pc := 25) rfl d_O_until_25 ?_
    refine r_ild1 C (pc := 26) d_O_until_26 ?_
    refine r_ist4 C (pc := 27) rfl d_O_until_27 ?_
    refine r_weak ?_ (l_O_until_29 C hS M S hR hO y (by omega) z hz N20 hR2 (fun b hb => ⟨(b1.1 6 b (by omega)).trans (s1 b hb), by omega, by have := KS_le hO hb y (decide (z = 1)); omega⟩) b3 hQ 502 0 (by omega) (fun i hi => absurd hi (Nat.not_lt_zero i)) (by omega))
    exact ⟨Or.inr rfl, Or.inr rfl, Or.inr rfl, Or.inr rfl, Or.inr (by rw [show y + ((0 : Nat) : Int) = y by omega]), trivial⟩
  · refine r_ldc C (pc := 7) (z := (-900002)) k_231 rfl d_O_until_7 ?_
    exact r_iret C (pc := 9) hQ (⟨by unfold fUntil; rw [if_pos (by omega)], hR⟩) d_O_until_9
theorem kX_f3 (N : zM) (x y : Int64) : kX N (zJ (zJ N 3 0 x) 3 1 y) := kX_J rfl (fun a q => (zJ_fn (by omega)).trans (zJ_fn (by omega)))
theorem part3 (N : zM) (a d : Nat) (z : Int) : (if z = 0 then (zJ (zJ N 3 0 (lN (a / Nat.gcd a d))) 3 1 (lN (d / Nat.gcd a d))).2 3 1 else (zJ (zJ N 3 0 (lN (a / Nat.gcd a d))) 3 1 (lN (d / Nat.gcd a d))).2 3 0) = part a d z := by
  unfold part
  rw [zJ_same, zJ_row (by decide), zJ_same]
set_option maxRecDepth 20000 in
theorem c_O_chance (l : Launch) (E : zE) (M : zM) (S : zS) (hR : RX S M) (hO : ok S) (b y z : Int) (hb : -2147483648 ≤ b ∧ b < 2147483648) (hy : -2147483648 ≤ y ∧ y < 2147483648) (hz : z = 0 ∨ z = 1) : zK l sX E y_O_chance b_O_chance 5 (some .long) 5 125 [.ref (E.2.2 0), .int (iI b), .int (iI y), .int (iI z)] M (zPl (fun r M2 => r = fChance S b y z ∧ RX S M2)) := by
  refine zK.of "OldBeams" rfl (by decide) (Nat.le_of_ble_eq_true rfl) ?_
  intro G hS hE hQ hL C
  subst hE
  subst hL
  show VJ G M 0 [some (.ref (G.2.1.2.2 0)), some (.int (iI b)), some (.int (iI y)), some (.int (iI z)), none] []
  have h12 := hO.n
  have hbn := hR.n
  refine r_ald0 C (pc := 0) d_O_chance_0 ?_
  refine r_ild1 C (pc := 1) d_O_chance_1 ?_
  refine r_ild2 C (pc := 2) d_O_chance_2 ?_
  refine call_O_isYear C (pc := 3) hS (c_O_isYear _ _ _ _ (by omega)) k_236 (by decide) (Nat.le_of_ble_eq_true rfl) rfl d_O_chance_3 (kkI (fun r3 N3 h3 => ?_))
  obtain ⟨rfl, rfl⟩ := h3
  refine call_O_refusal C (pc := 6) hS (c_O_refusal _ _ _ S (by assumption) hO _ _ (by omega) (by first | exact zb_01 _ | omega)) k_336 (by decide) (Nat.le_of_ble_eq_true rfl) rfl d_O_chance_6 (kkI (fun r6 N6 h6 => ?_))
  obtain ⟨rfl, rfl⟩ := h6
  rw [rfS_congr (Q := 0 ≤ y ∧ y ≤ 500) (by first | exact zb_1 _ | decide | omega)]
  have hrr := rfS_rng S b (0 ≤ y ∧ y ≤ 500)
  refine r_ist4 C (pc := 9) rfl d_O_chance_9 ?_
  refine r_ild4 C (pc := 11) d_O_chance_11 ?_
  refine r_if_eq C (pc := 13) (tgt := 20) (by omega) d_O_chance_13 (by decide) (fun c13 => ?_) (fun c13 => ?_)
  · obtain ⟨⟨hb0, hb1⟩, hin, hdn⟩ := rfS_0 c13
    obtain ⟨b, rfl⟩ := Int.eq_ofNat_of_zero_le hb0
    rw [Int.toNat_natCast] at hdn
    have hb : b < S.1 0 := by omega
    refine r_ald0 C (pc := 20) d_O_chance_20 ?_
    refine gX_O_frame C (pc := 21) hS k_201 d_O_chance_21 ?_
    refine call_F_reckonNow C (pc := 24) hS (c_F_reckonNow _ _ M S hR hO) k_340 (by decide) (Nat.le_of_ble_eq_true rfl) rfl d_O_chance_24 (kkV (fun N24 h24 => ?_))
    obtain ⟨b1, b2, b3⟩ := h24
    have hR2 := RXb hR b1
    refine r_ald0 C (pc := 27) d_O_chance_27 ?_
    refine gX_O_looks C (pc := 28) hS k_202 d_O_chance_28 ?_
    refine r_ild1 C (pc := 31) d_O_chance_31 ?_
    refine r_ild2 C (pc := 32) d_O_chance_32 ?_
    refine call_K_reckonOdds C (pc := 33) hS (c_K_reckonOdds _ _ N24 S hR2 hO b (by omega) y (by omega)) k_455 (by decide) (Nat.le_of_ble_eq_true rfl) rfl d_O_chance_33 (kkI (fun r33 N33 h33 => ?_))
    obtain ⟨a0, a1, a2, a3⟩ := h33
    have hR3 := RXk hR2 (kX_J a1 (fun a q => a2 a (by omega) (by omega)))
    have hJ3 : hJ S (psS S) (dA S (flS S)) N33 b := by
      have := b3 b hb hdn
      unfold hJ at this ⊢
      rw [a1, a2 _ (by omega) (by omega), a2 _ (by omega) (by omega)]
      exact this
    refine r_pop C (pc := 36) rfl d_O_chance_36 ?_
    refine r_ald0 C (pc := 37) d_O_chance_37 ?_
    refine r_ild1 C (pc := 38) d_O_chance_38 ?_
    refine call_O_putChance C (pc := 39) hS (c_O_putChance _ _ N33 S hR3 hO b hb y hJ3 a3) k_510 (by decide) (Nat.le_of_ble_eq_true rfl) rfl d_O_chance_39 (kkV (fun N39 h39 => ?_))
    subst h39
    have hR4 : ∀ x9 y9 : Int64, RX S (zJ (zJ N33 3 0 x9) 3 1 y9) := fun x9 y9 => RXk hR3 (kX_f3 N33 x9 y9)
    refine r_ald0 C (pc := 42) d_O_chance_42 ?_
    refine gX_O_fraction C (pc := 43) hS k_203 d_O_chance_43 ?_
    refine r_ild3 C (pc := 46) d_O_chance_46 ?_
    refine call_Q_part C (pc := 47) hS (by decide) (c_Q_part _ _ _ 3 (by decide) z hz) k_527 (by decide) (Nat.le_of_ble_eq_true rfl) rfl d_O_chance_47 (kkL (fun r47 N47 h47 => ?_))
    obtain ⟨rfl, rfl⟩ := h47
    exact r_lret C (pc := 50) hQ (⟨by rw [part3]; unfold fChance; rw [if_neg (fun q => q c13), Int.toNat_natCast], hR4 _ _⟩) d_O_chance_50
  · refine r_ild4 C (pc := 16) d_O_chance_16 ?_
    refine r_i2l C (pc := 18) (by omega) d_O_chance_18 ?_
    exact r_lret C (pc := 19) hQ (⟨by unfold fChance; rw [if_pos c13], hR⟩) d_O_chance_19
set_option maxRecDepth 20000 in
theorem c_O_mean (l : Launch) (E : zE) (M : zM) (S : zS) (hR : RX S M) (hO : ok S) (b y z : Int) (hb : -2147483648 ≤ b ∧ b < 2147483648) (hy : -2147483648 ≤ y ∧ y < 2147483648) (hz : z = 0 ∨ z = 1) : zK l sX E y_O_mean b_O_mean 5 (some .long) 5 125 [.ref (E.2.2 0), .int (iI b), .int (iI y), .int (iI z)] M (zPl (fun r M2 => r = fMean S b y z ∧ RX S M2)) := by
  refine zK.of "OldBeams" rfl (by decide) (Nat.le_of_ble_eq_true rfl) ?_
  intro G hS hE hQ hL C
  subst hE
  subst hL
  show VJ G M 0 [some (.ref (G.2.1.2.2 0)), some (.int (iI b)), some (.int (iI y)), some (.int (iI z)), none] []
  have h12 := hO.n
  have hbn := hR.n
  refine r_ald0 C (pc := 0) d_O_mean_0 ?_
  refine r_ild1 C (pc := 1) d_O_mean_1 ?_
  refine r_ild2 C (pc := 2) d_O_mean_2 ?_
  refine call_O_isYear C (pc := 3) hS (c_O_isYear _ _ _ _ (by omega)) k_236 (by decide) (Nat.le_of_ble_eq_true rfl) rfl d_O_mean_3 (kkI (fun r3 N3 h3 => ?_))
  obtain ⟨rfl, rfl⟩ := h3
  refine call_O_refusal C (pc := 6) hS (c_O_refusal _ _ _ S (by assumption) hO _ _ (by omega) (by first | exact zb_01 _ | omega)) k_336 (by decide) (Nat.le_of_ble_eq_true rfl) rfl d_O_mean_6 (kkI (fun r6 N6 h6 => ?_))
  obtain ⟨rfl, rfl⟩ := h6
  rw [rfS_congr (Q := 0 ≤ y ∧ y ≤ 500) (by first | exact zb_1 _ | decide | omega)]
  have hrr := rfS_rng S b (0 ≤ y ∧ y ≤ 500)
  refine r_ist4 C (pc := 9) rfl d_O_mean_9 ?_
  refine r_ild4 C (pc := 11) d_O_mean_11 ?_
  refine r_if_eq C (pc := 13) (tgt := 20) (by omega) d_O_mean_13 (by decide) (fun c13 => ?_) (fun c13 => ?_)
  · obtain ⟨⟨hb0, hb1⟩, hin, hdn⟩ := rfS_0 c13
    obtain ⟨b, rfl⟩ := Int.eq_ofNat_of_zero_le hb0
    rw [Int.toNat_natCast] at hdn
    have hb : b < S.1 0 := by omega
    refine r_ald0 C (pc := 20) d_O_mean_20 ?_
    refine gX_O_frame C (pc := 21) hS k_201 d_O_mean_21 ?_
    refine call_F_reckonNow C (pc := 24) hS (c_F_reckonNow _ _ M S hR hO) k_340 (by decide) (Nat.le_of_ble_eq_true rfl) rfl d_O_mean_24 (kkV (fun N24 h24 => ?_))
    obtain ⟨b1, b2, b3⟩ := h24
    have hR2 := RXb hR b1
    refine r_ald0 C (pc := 27) d_O_mean_27 ?_
    refine gX_O_looks C (pc := 28) hS k_202 d_O_mean_28 ?_
    refine r_ild1 C (pc := 31) d_O_mean_31 ?_
    refine r_ild2 C (pc := 32) d_O_mean_32 ?_
    refine call_K_reckonOdds C (pc := 33) hS (c_K_reckonOdds _ _ N24 S hR2 hO b (by omega) y (by omega)) k_455 (by decide) (Nat.le_of_ble_eq_true rfl) rfl d_O_mean_33 (kkI (fun r33 N33 h33 => ?_))
    obtain ⟨a0, a1, a2, a3⟩ := h33
    have hR3 := RXk hR2 (kX_J a1 (fun a q => a2 a (by omega) (by omega)))
    have hJ3 : hJ S (psS S) (dA S (flS S)) N33 b := by
      have := b3 b hb hdn
      unfold hJ at this ⊢
      rw [a1, a2 _ (by omega) (by omega), a2 _ (by omega) (by omega)]
      exact this
    refine r_pop C (pc := 36) rfl d_O_mean_36 ?_
    refine r_ald0 C (pc := 37) d_O_mean_37 ?_
    refine r_ild1 C (pc := 38) d_O_mean_38 ?_
    refine call_O_putMean C (pc := 39) hS (c_O_putMean _ _ N33 S hR3 hO b hb y hJ3 a3) k_598 (by decide) (Nat.le_of_ble_eq_true rfl) rfl d_O_mean_39 (kkV (fun N39 h39 => ?_))
    subst h39
    have hR4 : ∀ x9 y9 : Int64, RX S (zJ (zJ N33 3 0 x9) 3 1 y9) := fun x9 y9 => RXk hR3 (kX_f3 N33 x9 y9)
    refine r_ald0 C (pc := 42) d_O_mean_42 ?_
    refine gX_O_fraction C (pc := 43) hS k_203 d_O_mean_43 ?_
    refine r_ild3 C (pc := 46) d_O_mean_46 ?_
    refine call_Q_part C (pc := 47) hS (by decide) (c_Q_part _ _ _ 3 (by decide) z hz) k_527 (by decide) (Nat.le_of_ble_eq_true rfl) rfl d_O_mean_47 (kkL (fun r47 N47 h47 => ?_))
    obtain ⟨rfl, rfl⟩ := h47
    exact r_lret C (pc := 50) hQ (⟨by rw [part3]; unfold fMean; rw [if_neg (fun q => q c13), Int.toNat_natCast], hR4 _ _⟩) d_O_mean_50
  · refine r_ild4 C (pc := 16) d_O_mean_16 ?_
    refine r_i2l C (pc := 18) (by omega) d_O_mean_18 ?_
    exact r_lret C (pc := 19) hQ (⟨by unfold fMean; rw [if_pos c13], hR⟩) d_O_mean_19
set_option maxRecDepth 20000 in
theorem c_O_worth (l : Launch) (E : zE) (M : zM) (S : zS) (hR : RX S M) (hO : ok S) (b k y z : Int) (hb : -2147483648 ≤ b ∧ b < 2147483648) (hk : -2147483648 ≤ k ∧ k < 2147483648) (hy : -2147483648 ≤ y ∧ y < 2147483648) (hz : z = 0 ∨ z = 1) : zK l sX E y_O_worth b_O_worth 6 (some .long) 5 125 [.ref (E.2.2 0), .int (iI b), .int (iI k), .int (iI y), .int (iI z)] M (zPl (fun r M2 => r = fWorth S b k y z ∧ RX S M2)) := by
  refine zK.of "OldBeams" rfl (by decide) (Nat.le_of_ble_eq_true rfl) ?_
  intro G hS hE hQ hL C
  subst hE
  subst hL
  show VJ G M 0 [some (.ref (G.2.1.2.2 0)), some (.int (iI b)), some (.int (iI k)), some (.int (iI y)), some (.int (iI z)), none] []
  have h12 := hO.n
  have hbn := hR.n
  refine r_ild2 C (pc := 0) d_O_worth_0 ?_
  refine call_O_isTool C (pc := 1) hS (c_O_isTool _ _ _ _ (by omega)) k_430 (by decide) (Nat.le_of_ble_eq_true rfl) rfl d_O_worth_1 (kkI (fun r1 N1 h1 => ?_))
  obtain ⟨rfl, rfl⟩ := h1
  refine r_ifneB C (pc := 4) (tgt := 11) d_O_worth_4 (by decide) (fun c4 => ?_) (fun c4 => ?_)
  · obtain ⟨k, rfl⟩ := Int.eq_ofNat_of_zero_le c4.1
    refine r_ald0 C (pc := 11) d_O_worth_11 ?_
    refine r_ild1 C (pc := 12) d_O_worth_12 ?_
    refine r_ild3 C (pc := 13) d_O_worth_13 ?_
    refine call_O_isYear C (pc := 14) hS (c_O_isYear _ _ _ _ (by omega)) k_236 (by decide) (Nat.le_of_ble_eq_true rfl) rfl d_O_worth_14 (kkI (fun r14 N14 h14 => ?_))
    obtain ⟨rfl, rfl⟩ := h14
    refine call_O_refusal C (pc := 17) hS (c_O_refusal _ _ _ S (by assumption) hO _ _ (by omega) (by first | exact zb_01 _ | omega)) k_336 (by decide) (Nat.le_of_ble_eq_true rfl) rfl d_O_worth_17 (kkI (fun r17 N17 h17 => ?_))
    obtain ⟨rfl, rfl⟩ := h17
    rw [rfS_congr (Q := 0 ≤ y ∧ y ≤ 500) (by first | exact zb_1 _ | decide | omega)]
    have hrr := rfS_rng S b (0 ≤ y ∧ y ≤ 500)
    refine r_ist5 C (pc := 20) rfl d_O_worth_20 ?_
    refine r_ild5 C (pc := 22) d_O_worth_22 ?_
    refine r_if_eq C (pc := 24) (tgt := 31) (by omega) d_O_worth_24 (by decide) (fun c24 => ?_) (fun c24 => ?_)
    · obtain ⟨⟨hb0, hb1⟩, hin, hdn⟩ := rfS_0 c24
      obtain ⟨b, rfl⟩ := Int.eq_ofNat_of_zero_le hb0
      rw [Int.toNat_natCast] at hdn
      have hb : b < S.1 0 := by omega
      refine r_ald0 C (pc := 31) d_O_worth_31 ?_
      refine gX_O_frame C (pc := 32) hS k_201 d_O_worth_32 ?_
      refine call_F_reckonNow C (pc := 35) hS (c_F_reckonNow _ _ M S hR hO) k_340 (by decide) (Nat.le_of_ble_eq_true rfl) rfl d_O_worth_35 (kkV (fun N35 h35 => ?_))
      obtain ⟨b1, b2, b3⟩ := h35
      have hR2 := RXb hR b1
      refine r_ald0 C (pc := 38) d_O_worth_38 ?_
      refine gX_O_looks C (pc := 39) hS k_202 d_O_worth_39 ?_
      refine r_ild1 C (pc := 42) d_O_worth_42 ?_
      refine r_ild3 C (pc := 43) d_O_worth_43 ?_
      refine call_K_reckonOdds C (pc := 44) hS (c_K_reckonOdds _ _ N35 S hR2 hO b (by omega) y (by omega)) k_455 (by decide) (Nat.le_of_ble_eq_true rfl) rfl d_O_worth_44 (kkI (fun r44 N44 h44 => ?_))
      obtain ⟨a0, a1, a2, a3⟩ := h44
      have hR3 := RXk hR2 (kX_J a1 (fun a q => a2 a (by omega) (by omega)))
      have hJ3 : hJ S (psS S) (dA S (flS S)) N44 b := by
        have := b3 b hb hdn
        unfold hJ at this ⊢
        rw [a1, a2 _ (by omega) (by omega), a2 _ (by omega) (by omega)]
        exact this
      refine r_pop C (pc := 47) rfl d_O_worth_47 ?_
      refine r_ald0 C (pc := 48) d_O_worth_48 ?_
      refine r_ild1 C (pc := 49) d_O_worth_49 ?_
      refine r_ild2 C (pc := 50) d_O_worth_50 ?_
      refine call_O_putWorth C (pc := 51) hS (c_O_putWorth _ _ N44 S hR3 hO b hb y k (by omega) hJ3 a3) k_613 (by decide) (Nat.le_of_ble_eq_true rfl) rfl d_O_worth_51 (kkV (fun N51 h51 => ?_))
      subst h51
      have hR4 : ∀ x9 y9 : Int64, RX S (zJ (zJ N44 3 0 x9) 3 1 y9) := fun x9 y9 => RXk hR3 (kX_f3 N44 x9 y9)
      refine r_ald0 C (pc := 54) d_O_worth_54 ?_
      refine gX_O_fraction C (pc := 55) hS k_203 d_O_worth_55 ?_
      refine r_ild4 C (pc := 58) d_O_worth_58 ?_
      refine call_Q_part C (pc := 60) hS (by decide) (c_Q_part _ _ _ 3 (by decide) z hz) k_527 (by decide) (Nat.le_of_ble_eq_true rfl) rfl d_O_worth_60 (kkL (fun r60 N60 h60 => ?_))
      obtain ⟨rfl, rfl⟩ := h60
      exact r_lret C (pc := 63) hQ (⟨by rw [part3]; unfold fWorth; rw [if_neg (show ¬ ¬ (0 ≤ (k : Int) ∧ (k : Int) ≤ 3) by omega), if_neg (fun q => q c24), Int.toNat_natCast, Int.toNat_natCast], hR4 _ _⟩) d_O_worth_63
    · refine r_ild5 C (pc := 27) d_O_worth_27 ?_
      refine r_i2l C (pc := 29) (by omega) d_O_worth_29 ?_
      exact r_lret C (pc := 30) hQ (⟨by unfold fWorth; rw [if_neg (by omega), if_pos c24], hR⟩) d_O_worth_30
  · refine r_ldc2 C (pc := 7) k_453 d_O_worth_7 ?_
    exact r_lret C (pc := 10) hQ (⟨by unfold fWorth; rw [if_pos c4]; rfl, hR⟩) d_O_worth_10
