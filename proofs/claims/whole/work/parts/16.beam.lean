theorem zb_of1 {P : Prop} [Decidable P] (h : P) : (1 : Int) = zb P := (zb_pos h).symm
theorem zb_of0 {P : Prop} [Decidable P] (h : ¬ P) : (0 : Int) = zb P := (zb_neg h).symm
-- memory: later writes over earlier ones
theorem zI_zI (M : zM) (k i : Nat) (y z : Int) : zI (zI M k i y) k i z = zI M k i z := by
  unfold zI
  congr 1
  funext a b
  by_cases h : a = k ∧ b = i <;> simp [h]
theorem zJ_zJ (M : zM) (k i : Nat) (y z : Int64) : zJ (zJ M k i y) k i z = zJ M k i z := by
  unfold zJ
  congr 1
  funext a b
  by_cases h : a = k ∧ b = i <;> simp [h]
theorem zJ_zI (M : zM) (k i k2 i2 : Nat) (y : Int) (z : Int64) : zJ (zI M k i y) k2 i2 z = zI (zJ M k2 i2 z) k i y := rfl
-- bending
def bdG (f : Nat → Int64) (a0 a1 : Int) (q0 q1 : Int64) (x : Nat) : Int64 := sm (fun p => f p * lI ((x : Int) - (p : Int))) x - (if a0 < (x : Int) then q0 * lI ((x : Int) - a0) else 0) - (if a1 < (x : Int) then q1 * lI ((x : Int) - a1) else 0)
def wG (f : Nat → Int64) (a0 a1 : Int) (q0 q1 : Int64) (x : Nat) : Int64 := sm f x - (if a0 < (x : Int) then q0 else 0) - (if a1 < (x : Int) then q1 else 0)
theorem lI_1 : lI 1 = 1 := rfl
theorem sm_step (f : Nat → Int64) (c : Int) : ∀ n : Nat, sm (fun p => f p * lI (c + 1 - (p : Int))) n = sm (fun p => f p * lI (c - (p : Int))) n + sm f n
  | 0 => by simp [sm]
  | n + 1 => by
    have ih := sm_step f c n
    have e : lI (c + 1 - (n : Int)) = lI (c - (n : Int)) + 1 := by rw [← lI_1, lI_add]; congr 1; omega
    simp only [sm]
    rw [ih, e]
    grind
theorem if_step (a : Int) (q : Int64) (x : Nat) : (if a < ((x + 1 : Nat) : Int) then q * lI (((x + 1 : Nat) : Int) - a) else 0) = (if a < (x : Int) then q * lI ((x : Int) - a) else 0) + (if a < ((x + 1 : Nat) : Int) then q else 0) := by
  have e : lI (((x + 1 : Nat) : Int) - a) = lI ((x : Int) - a) + 1 := by rw [← lI_1, lI_add]; congr 1; omega
  by_cases h : a < (x : Int)
  · rw [if_pos h, if_pos (by omega), if_pos (by omega), e]
    grind
  · rw [if_neg h]
    by_cases h2 : a < ((x + 1 : Nat) : Int)
    · rw [if_pos h2, if_pos h2, show a = (x : Int) by omega, show ((x + 1 : Nat) : Int) - (x : Int) = 1 by omega, lI_1]
      grind
    · rw [if_neg h2, if_neg h2]
      grind
theorem bdG_succ (f : Nat → Int64) (a0 a1 : Int) (q0 q1 : Int64) (x : Nat) : bdG f a0 a1 q0 q1 (x + 1) = bdG f a0 a1 q0 q1 x + wG f a0 a1 q0 q1 (x + 1) := by
  unfold bdG wG
  rw [if_step, if_step]
  have e1 : sm (fun p => f p * lI (((x + 1 : Nat) : Int) - (p : Int))) (x + 1) = sm (fun p => f p * lI ((x : Int) - (p : Int))) x + sm f (x + 1) := by
    have h := sm_step f (x : Int) x
    simp only [sm]
    rw [show ((x + 1 : Nat) : Int) = (x : Int) + 1 by omega, h, show (x : Int) + 1 - (x : Int) = 1 by omega, lI_1]
    grind
  rw [e1]
  grind
theorem wG_succ (f : Nat → Int64) (a0 a1 : Int) (q0 q1 : Int64) (x : Nat) : wG f a0 a1 q0 q1 (x + 1) = wG f a0 a1 q0 q1 x + f x - (if (x : Int) = a0 then q0 else 0) - (if (x : Int) = a1 then q1 else 0) := by
  have key : ∀ (a : Int) (q : Int64), (if a < ((x + 1 : Nat) : Int) then q else 0) = (if a < (x : Int) then q else 0) + (if (x : Int) = a then q else 0) := by
    intro a q
    by_cases h : a < (x : Int)
    · rw [if_pos h, if_pos (by omega), if_neg (by omega)]
      grind
    · by_cases h2 : (x : Int) = a
      · rw [if_neg h, if_pos (by omega), if_pos h2]
        grind
      · rw [if_neg h, if_neg (by omega), if_neg h2]
        grind
  unfold wG
  rw [key, key]
  simp only [sm]
  grind
theorem bdG_0 (f : Nat → Int64) (a0 a1 : Int) (q0 q1 : Int64) (h0 : 0 ≤ a0) (h1 : 0 ≤ a1) : bdG f a0 a1 q0 q1 0 = 0 := by
  unfold bdG
  rw [if_neg (by omega), if_neg (by omega)]
  simp [sm]
theorem wG_0 (f : Nat → Int64) (a0 a1 : Int) (q0 q1 : Int64) (h0 : 0 ≤ a0) (h1 : 0 ≤ a1) : wG f a0 a1 q0 q1 0 = 0 := by
  unfold wG
  rw [if_neg (by omega), if_neg (by omega)]
  simp [sm]
set_option maxRecDepth 20000 in
theorem c_B_putSeat (l : Launch) (E : zE) (M : zM) (i : Nat) (hi : i < 12) (s : Nat) (hs : s < 2) (p n w : Int) (hn : -2147483648 ≤ n ∧ n < 2147483648) : zK l sX E y_B_putSeat b_B_putSeat 5 none 0 0 [.ref (E.2.2 (45 + 7 * i)), .int (iI (s : Int)), .int (iI p), .int (iI n), .int (iI w)] M (zPv (fun M2 => zI (zI (zI M (45 + 7 * i + 1) s p) (45 + 7 * i + 2) s n) (45 + 7 * i + 3) s (if n = -900009 then 0 else w) = M2)) := by
  refine zK.of "OldBeams$Beam" rfl (by decide) (Nat.le_of_ble_eq_true rfl) ?_
  intro G hS hE hQ hL C
  subst hE
  subst hL
  show VJ G M 0 [some (.ref (G.2.1.2.2 (45 + 7 * i))), some (.int (iI (s : Int))), some (.int (iI p)), some (.int (iI n)), some (.int (iI w))] []
  refine r_ald0 C (pc := 0) d_B_putSeat_0 ?_
  refine gX_B_place C (pc := 1) hS (by omega) k_44 d_B_putSeat_1 ?_
  refine r_ild1 C (pc := 4) d_B_putSeat_4 ?_
  refine r_ild2 C (pc := 5) d_B_putSeat_5 ?_
  refine X_iastN C (pc := 6) hS (s) (by omega) (shB1 _) (by omega) (by omega) (by decide)  d_B_putSeat_6 ?_
  refine r_ald0 C (pc := 7) d_B_putSeat_7 ?_
  refine gX_B_on C (pc := 8) hS (by omega) k_46 d_B_putSeat_8 ?_
  refine r_ild1 C (pc := 11) d_B_putSeat_11 ?_
  refine r_ild3 C (pc := 12) d_B_putSeat_12 ?_
  refine X_iastN C (pc := 13) hS (s) (by omega) (shB2 _) (by omega) (by omega) (by decide)  d_B_putSeat_13 ?_
  refine r_ald0 C (pc := 14) d_B_putSeat_14 ?_
  refine gX_B_where C (pc := 15) hS (by omega) k_49 d_B_putSeat_15 ?_
  refine r_ild1 C (pc := 18) d_B_putSeat_18 ?_
  refine r_ild3 C (pc := 19) d_B_putSeat_19 ?_
  refine r_ldc C (pc := 20) (z := (-900009)) k_248 rfl d_B_putSeat_20 ?_
  refine r_icmp_ne C (pc := 22) (tgt := 29) (by omega) (by omega) d_B_putSeat_22 (by decide) (fun c22 => ?_) (fun c22 => ?_)
  · refine r_ild4 C (pc := 29) d_B_putSeat_29 ?_
    refine X_iastN C (pc := 31) hS (s) (by omega) (shB3 _) (by omega) (by omega) (by decide)  d_B_putSeat_31 ?_
    exact r_vret C (pc := 32) hQ (by first | rw [if_pos (by assumption)] | rw [if_neg (by assumption)]) d_B_putSeat_32
  · refine r_iconst C (pc := 25) d_B_putSeat_25 ?_
    refine r_goto C (pc := 26) (tgt := 31) d_B_putSeat_26 (by decide) ?_
    refine X_iastN C (pc := 31) hS (s) (by omega) (shB3 _) (by omega) (by omega) (by decide)  d_B_putSeat_31 ?_
    exact r_vret C (pc := 32) hQ (by first | rw [if_pos (by assumption)] | rw [if_neg (by assumption)]) d_B_putSeat_32
set_option maxRecDepth 20000 in
theorem c_B_begin (l : Launch) (E : zE) (M : zM) (i : Nat) (hi : i < 12) (a b c d : Int) : zK l sX E y_B_begin b_B_begin 5 none 1 24 [.ref (E.2.2 (45 + 7 * i)), .int (iI a), .int (iI b), .int (iI c), .int (iI d)] M (zPv (fun M2 => zI (zI (zI (zI (zI (zI (zI (zI (zI (zI M (45 + 7 * i) 0 a) (45 + 7 * i) 1 b) (45 + 7 * i) 2 c) (45 + 7 * i) 3 d) (45 + 7 * i + 1) 0 0) (45 + 7 * i + 2) 0 (-900009)) (45 + 7 * i + 3) 0 0) (45 + 7 * i + 1) 1 b) (45 + 7 * i + 2) 1 (-900009)) (45 + 7 * i + 3) 1 0 = M2)) := by
  refine zK.of "OldBeams$Beam" rfl (by decide) (Nat.le_of_ble_eq_true rfl) ?_
  intro G hS hE hQ hL C
  subst hE
  subst hL
  show VJ G M 0 [some (.ref (G.2.1.2.2 (45 + 7 * i))), some (.int (iI a)), some (.int (iI b)), some (.int (iI c)), some (.int (iI d))] []
  refine r_ald0 C (pc := 0) d_B_begin_0 ?_
  refine r_ild1 C (pc := 1) d_B_begin_1 ?_
  refine pX_B_kind C (pc := 2) hS (by omega) k_33 d_B_begin_2 ?_
  refine r_ald0 C (pc := 5) d_B_begin_5 ?_
  refine r_ild2 C (pc := 6) d_B_begin_6 ?_
  refine pX_B_length C (pc := 7) hS (by omega) k_35 d_B_begin_7 ?_
  refine r_ald0 C (pc := 10) d_B_begin_10 ?_
  refine r_ild3 C (pc := 11) d_B_begin_11 ?_
  refine pX_B_width C (pc := 12) hS (by omega) k_38 d_B_begin_12 ?_
  refine r_ald0 C (pc := 15) d_B_begin_15 ?_
  refine r_ild4 C (pc := 16) d_B_begin_16 ?_
  refine pX_B_height C (pc := 18) hS (by omega) k_40 d_B_begin_18 ?_
  refine r_ald0 C (pc := 21) d_B_begin_21 ?_
  refine r_iconst C (pc := 22) d_B_begin_22 ?_
  refine r_iconst C (pc := 23) d_B_begin_23 ?_
  refine r_ldc C (pc := 24) (z := (-900009)) k_248 rfl d_B_begin_24 ?_
  refine r_iconst C (pc := 26) d_B_begin_26 ?_
  refine call_B_putSeat C (pc := 27) hS (by omega) (c_B_putSeat _ _ _ i hi 0 (by omega) _ _ _ (by omega)) k_249 (by decide) (Nat.le_of_ble_eq_true rfl) rfl d_B_begin_27 (kkV (fun N27 h27 => ?_))
  subst h27
  refine r_ald0 C (pc := 30) d_B_begin_30 ?_
  refine r_iconst C (pc := 31) d_B_begin_31 ?_
  refine r_ild2 C (pc := 32) d_B_begin_32 ?_
  refine r_ldc C (pc := 33) (z := (-900009)) k_248 rfl d_B_begin_33 ?_
  refine r_iconst C (pc := 35) d_B_begin_35 ?_
  refine call_B_putSeat C (pc := 36) hS (by omega) (c_B_putSeat _ _ _ i hi 1 (by omega) _ _ _ (by omega)) k_249 (by decide) (Nat.le_of_ble_eq_true rfl) rfl d_B_begin_36 (kkV (fun N36 h36 => ?_))
  subst h36
  exact r_vret C (pc := 39) hQ (rfl) d_B_begin_39
set_option maxRecDepth 20000 in
theorem c_B_mayPutSeat (l : Launch) (E : zE) (M : zM) (i : Nat) (hi : i < 12) (s p : Int) (hs : s = 0 ∨ s = 1) (hp : 0 ≤ p ∧ p ≤ 60) (h0 : 0 ≤ M.1 (45 + 7 * i + 1) 0 ∧ M.1 (45 + 7 * i + 1) 0 ≤ 60) (h1 : 0 ≤ M.1 (45 + 7 * i + 1) 1 ∧ M.1 (45 + 7 * i + 1) 1 ≤ 60) (hl : 0 ≤ M.1 (45 + 7 * i) 1 ∧ M.1 (45 + 7 * i) 1 ≤ 60) : zK l sX E y_B_mayPutSeat b_B_mayPutSeat 5 (some .boolean) 0 0 [.ref (E.2.2 (45 + 7 * i)), .int (iI s), .int (iI p)] M (zPi (fun r M2 => r = zb (M.1 (45 + 7 * i) 1 ≤ 3 * ((if s = 0 then M.1 (45 + 7 * i + 1) 1 else p) - (if s = 0 then p else M.1 (45 + 7 * i + 1) 0))) ∧ M = M2)) := by
  refine zK.of "OldBeams$Beam" rfl (by decide) (Nat.le_of_ble_eq_true rfl) ?_
  intro G hS hE hQ hL C
  subst hE
  subst hL
  show VJ G M 0 [some (.ref (G.2.1.2.2 (45 + 7 * i))), some (.int (iI s)), some (.int (iI p)), none, none] []
  refine r_ild1 C (pc := 0) d_B_mayPutSeat_0 ?_
  refine r_if_ne C (pc := 1) (tgt := 8) (by omega) d_B_mayPutSeat_1 (by decide) (fun c1 => ?_) (fun c1 => ?_)
  · refine r_ald0 C (pc := 8) d_B_mayPutSeat_8 ?_
    refine gX_B_place C (pc := 9) hS (by omega) k_44 d_B_mayPutSeat_9 ?_
    refine r_iconst C (pc := 12) d_B_mayPutSeat_12 ?_
    refine X_ialdN C (pc := 13) hS (0) (by omega) (shB1 _) (by omega) (by omega) (by decide) d_B_mayPutSeat_13 ?_
    refine r_ist3 C (pc := 14) rfl d_B_mayPutSeat_14 ?_
    refine r_ild1 C (pc := 15) d_B_mayPutSeat_15 ?_
    refine r_iconst C (pc := 16) d_B_mayPutSeat_16 ?_
    refine r_icmp_ne C (pc := 17) (tgt := 24) (by omega) (by omega) d_B_mayPutSeat_17 (by decide) (fun c17 => ?_) (fun c17 => ?_)
    · refine r_ald0 C (pc := 24) d_B_mayPutSeat_24 ?_
      refine gX_B_place C (pc := 25) hS (by omega) k_44 d_B_mayPutSeat_25 ?_
      refine r_iconst C (pc := 28) d_B_mayPutSeat_28 ?_
      refine X_ialdN C (pc := 29) hS (1) (by omega) (shB1 _) (by omega) (by omega) (by decide) d_B_mayPutSeat_29 ?_
      refine r_ist4 C (pc := 30) rfl d_B_mayPutSeat_30 ?_
      refine r_iconst C (pc := 32) d_B_mayPutSeat_32 ?_
      refine r_ild4 C (pc := 33) d_B_mayPutSeat_33 ?_
      refine r_ild3 C (pc := 35) d_B_mayPutSeat_35 ?_
      refine r_isub C (pc := 36) d_B_mayPutSeat_36 ?_
      refine r_imul C (pc := 37) d_B_mayPutSeat_37 ?_
      refine r_ald0 C (pc := 38) d_B_mayPutSeat_38 ?_
      refine gX_B_length C (pc := 39) hS (by omega) k_35 d_B_mayPutSeat_39 ?_
      refine r_icmp_lt C (pc := 42) (tgt := 49) (by omega) (by omega) d_B_mayPutSeat_42 (by decide) (fun c42 => ?_) (fun c42 => ?_)
      · refine r_iconst C (pc := 49) d_B_mayPutSeat_49 ?_
        exact r_zret C (pc := 50) hQ (by first | exact Or.inl rfl | exact Or.inr rfl | exact zb_01 _ | assumption) (⟨by first | exact zb_of1 (by rcases hs with rfl | rfl <;> (try simp) <;> omega) | exact zb_of0 (by rcases hs with rfl | rfl <;> (try simp) <;> omega), rfl⟩) d_B_mayPutSeat_50
      · refine r_iconst C (pc := 45) d_B_mayPutSeat_45 ?_
        refine r_goto C (pc := 46) (tgt := 50) d_B_mayPutSeat_46 (by decide) ?_
        exact r_zret C (pc := 50) hQ (by first | exact Or.inl rfl | exact Or.inr rfl | exact zb_01 _ | assumption) (⟨by first | exact zb_of1 (by rcases hs with rfl | rfl <;> (try simp) <;> omega) | exact zb_of0 (by rcases hs with rfl | rfl <;> (try simp) <;> omega), rfl⟩) d_B_mayPutSeat_50
    · refine r_ild2 C (pc := 20) d_B_mayPutSeat_20 ?_
      refine r_goto C (pc := 21) (tgt := 30) d_B_mayPutSeat_21 (by decide) ?_
      refine r_ist4 C (pc := 30) rfl d_B_mayPutSeat_30 ?_
      refine r_iconst C (pc := 32) d_B_mayPutSeat_32 ?_
      refine r_ild4 C (pc := 33) d_B_mayPutSeat_33 ?_
      refine r_ild3 C (pc := 35) d_B_mayPutSeat_35 ?_
      refine r_isub C (pc := 36) d_B_mayPutSeat_36 ?_
      refine r_imul C (pc := 37) d_B_mayPutSeat_37 ?_
      refine r_ald0 C (pc := 38) d_B_mayPutSeat_38 ?_
      refine gX_B_length C (pc := 39) hS (by omega) k_35 d_B_mayPutSeat_39 ?_
      refine r_icmp_lt C (pc := 42) (tgt := 49) (by omega) (by omega) d_B_mayPutSeat_42 (by decide) (fun c42 => ?_) (fun c42 => ?_)
      · refine r_iconst C (pc := 49) d_B_mayPutSeat_49 ?_
        exact r_zret C (pc := 50) hQ (by first | exact Or.inl rfl | exact Or.inr rfl | exact zb_01 _ | assumption) (⟨by first | exact zb_of1 (by rcases hs with rfl | rfl <;> (try simp) <;> omega) | exact zb_of0 (by rcases hs with rfl | rfl <;> (try simp) <;> omega), rfl⟩) d_B_mayPutSeat_50
      · refine r_iconst C (pc := 45) d_B_mayPutSeat_45 ?_
        refine r_goto C (pc := 46) (tgt := 50) d_B_mayPutSeat_46 (by decide) ?_
        exact r_zret C (pc := 50) hQ (by first | exact Or.inl rfl | exact Or.inr rfl | exact zb_01 _ | assumption) (⟨by first | exact zb_of1 (by rcases hs with rfl | rfl <;> (try simp) <;> omega) | exact zb_of0 (by rcases hs with rfl | rfl <;> (try simp) <;> omega), rfl⟩) d_B_mayPutSeat_50
  · refine r_ild2 C (pc := 4) d_B_mayPutSeat_4 ?_
    refine r_goto C (pc := 5) (tgt := 14) d_B_mayPutSeat_5 (by decide) ?_
    refine r_ist3 C (pc := 14) rfl d_B_mayPutSeat_14 ?_
    refine r_ild1 C (pc := 15) d_B_mayPutSeat_15 ?_
    refine r_iconst C (pc := 16) d_B_mayPutSeat_16 ?_
    refine r_icmp_ne C (pc := 17) (tgt := 24) (by omega) (by omega) d_B_mayPutSeat_17 (by decide) (fun c17 => ?_) (fun c17 => ?_)
    · refine r_ald0 C (pc := 24) d_B_mayPutSeat_24 ?_
      refine gX_B_place C (pc := 25) hS (by omega) k_44 d_B_mayPutSeat_25 ?_
      refine r_iconst C (pc := 28) d_B_mayPutSeat_28 ?_
      refine X_ialdN C (pc := 29) hS (1) (by omega) (shB1 _) (by omega) (by omega) (by decide) d_B_mayPutSeat_29 ?_
      refine r_ist4 C (pc := 30) rfl d_B_mayPutSeat_30 ?_
      refine r_iconst C (pc := 32) d_B_mayPutSeat_32 ?_
      refine r_ild4 C (pc := 33) d_B_mayPutSeat_33 ?_
      refine r_ild3 C (pc := 35) d_B_mayPutSeat_35 ?_
      refine r_isub C (pc := 36) d_B_mayPutSeat_36 ?_
      refine r_imul C (pc := 37) d_B_mayPutSeat_37 ?_
      refine r_ald0 C (pc := 38) d_B_mayPutSeat_38 ?_
      refine gX_B_length C (pc := 39) hS (by omega) k_35 d_B_mayPutSeat_39 ?_
      refine r_icmp_lt C (pc := 42) (tgt := 49) (by omega) (by omega) d_B_mayPutSeat_42 (by decide) (fun c42 => ?_) (fun c42 => ?_)
      · refine r_iconst C (pc := 49) d_B_mayPutSeat_49 ?_
        exact r_zret C (pc := 50) hQ (by first | exact Or.inl rfl | exact Or.inr rfl | exact zb_01 _ | assumption) (⟨by first | exact zb_of1 (by rcases hs with rfl | rfl <;> (try simp) <;> omega) | exact zb_of0 (by rcases hs with rfl | rfl <;> (try simp) <;> omega), rfl⟩) d_B_mayPutSeat_50
      · refine r_iconst C (pc := 45) d_B_mayPutSeat_45 ?_
        refine r_goto C (pc := 46) (tgt := 50) d_B_mayPutSeat_46 (by decide) ?_
        exact r_zret C (pc := 50) hQ (by first | exact Or.inl rfl | exact Or.inr rfl | exact zb_01 _ | assumption) (⟨by first | exact zb_of1 (by rcases hs with rfl | rfl <;> (try simp) <;> omega) | exact zb_of0 (by rcases hs with rfl | rfl <;> (try simp) <;> omega), rfl⟩) d_B_mayPutSeat_50
    · refine r_ild2 C (pc := 20) d_B_mayPutSeat_20 ?_
      refine r_goto C (pc := 21) (tgt := 30) d_B_mayPutSeat_21 (by decide) ?_
      refine r_ist4 C (pc := 30) rfl d_B_mayPutSeat_30 ?_
      refine r_iconst C (pc := 32) d_B_mayPutSeat_32 ?_
      refine r_ild4 C (pc := 33) d_B_mayPutSeat_33 ?_
      refine r_ild3 C (pc := 35) d_B_mayPutSeat_35 ?_
      refine r_isub C (pc := 36) d_B_mayPutSeat_36 ?_
      refine r_imul C (pc := 37) d_B_mayPutSeat_37 ?_
      refine r_ald0 C (pc := 38) d_B_mayPutSeat_38 ?_
      refine gX_B_length C (pc := 39) hS (by omega) k_35 d_B_mayPutSeat_39 ?_
      refine r_icmp_lt C (pc := 42) (tgt := 49) (by omega) (by omega) d_B_mayPutSeat_42 (by decide) (fun c42 => ?_) (fun c42 => ?_)
      · refine r_iconst C (pc := 49) d_B_mayPutSeat_49 ?_
        exact r_zret C (pc := 50) hQ (by first | exact Or.inl rfl | exact Or.inr rfl | exact zb_01 _ | assumption) (⟨by first | exact zb_of1 (by rcases hs with rfl | rfl <;> (try simp) <;> omega) | exact zb_of0 (by rcases hs with rfl | rfl <;> (try simp) <;> omega), rfl⟩) d_B_mayPutSeat_50
      · refine r_iconst C (pc := 45) d_B_mayPutSeat_45 ?_
        refine r_goto C (pc := 46) (tgt := 50) d_B_mayPutSeat_46 (by decide) ?_
        exact r_zret C (pc := 50) hQ (by first | exact Or.inl rfl | exact Or.inr rfl | exact zb_01 _ | assumption) (⟨by first | exact zb_of1 (by rcases hs with rfl | rfl <;> (try simp) <;> omega) | exact zb_of0 (by rcases hs with rfl | rfl <;> (try simp) <;> omega), rfl⟩) d_B_mayPutSeat_50
set_option maxRecDepth 20000 in
theorem c_B_takeLoads (l : Launch) (E : zE) (M : zM) (i : Nat) (hi : i < 12) (L : Nat) (hL : M.1 (45 + 7 * i) 1 = (L : Int)) (hL6 : L ≤ 60) : zK l sX E y_B_takeLoads b_B_takeLoads 1 none 1 40 [.ref (E.2.2 (45 + 7 * i))] M (zPv (fun M2 => zcp M (45 + 7 * i + 4) (45 + 7 * i + 5) (L + 1) = M2)) := by
  refine zK.of "OldBeams$Beam" rfl (by decide) (Nat.le_of_ble_eq_true rfl) ?_
  intro G hS hE hQ hL C
  subst hE
  subst hL
  show VJ G M 0 [some (.ref (G.2.1.2.2 (45 + 7 * i)))] []
  refine r_ald0 C (pc := 0) d_B_takeLoads_0 ?_
  refine gX_B_loaded C (pc := 1) hS (by omega) k_51 d_B_takeLoads_1 ?_
  refine r_iconst C (pc := 4) d_B_takeLoads_4 ?_
  refine r_ald0 C (pc := 5) d_B_takeLoads_5 ?_
  refine gX_B_forces C (pc := 6) hS (by omega) k_53 d_B_takeLoads_6 ?_
  refine r_iconst C (pc := 9) d_B_takeLoads_9 ?_
  refine r_ald0 C (pc := 10) d_B_takeLoads_10 ?_
  refine gX_B_length C (pc := 11) hS (by omega) k_35 d_B_takeLoads_11 ?_
  refine r_iconst C (pc := 14) d_B_takeLoads_14 ?_
  refine r_iadd C (pc := 15) d_B_takeLoads_15 ?_
  rw [hL]
  refine r_copyl C (pc := 16) hS (shB4 i) (shB5 i) (by omega) (by omega) (by omega) (by omega) k_356 (by decide) rfl d_B_takeLoads_16 ?_
  exact r_vret C (pc := 19) hQ (by rw [show ((L : Int) + 1).toNat = L + 1 by omega]) d_B_takeLoads_19
set_option maxRecDepth 20000 in
theorem c_B_isLifted (l : Launch) (E : zE) (M : zM) (i : Nat) (hi : i < 12) : zK l sX E y_B_isLifted b_B_isLifted 1 (some .boolean) 0 0 [.ref (E.2.2 (45 + 7 * i))] M (zPi (fun r M2 => r = zb (M.2 (45 + 7 * i + 6) 0 < 0 ∨ M.2 (45 + 7 * i + 6) 1 < 0) ∧ M = M2)) := by
  refine zK.of "OldBeams$Beam" rfl (by decide) (Nat.le_of_ble_eq_true rfl) ?_
  intro G hS hE hQ hL C
  subst hE
  subst hL
  show VJ G M 0 [some (.ref (G.2.1.2.2 (45 + 7 * i)))] []
  refine r_ald0 C (pc := 0) d_B_isLifted_0 ?_
  refine gX_B_push C (pc := 1) hS (by omega) k_55 d_B_isLifted_1 ?_
  refine r_iconst C (pc := 4) d_B_isLifted_4 ?_
  refine X_laldN C (pc := 5) hS (0) (by omega) (shB6 _) (by omega) (by omega) (by decide) d_B_isLifted_5 ?_
  refine r_lconst C (pc := 6) (v := 0) rfl d_B_isLifted_6 ?_
  refine r_lcmp_lt C (pc := 7) (tgt := 22) d_B_isLifted_7 d_B_isLifted_8 (by decide) (fun c7 => ?_) (fun c7 => ?_)
  · refine r_iconst C (pc := 22) d_B_isLifted_22 ?_
    refine r_goto C (pc := 23) (tgt := 27) d_B_isLifted_23 (by decide) ?_
    exact r_zret C (pc := 27) hQ (by first | exact Or.inl rfl | exact Or.inr rfl | exact zb_01 _ | assumption) (⟨by first | rw [zb_pos (Or.inl c7)] | rw [zb_pos (Or.inr (Int64.not_le.mp c18))] | rw [zb_neg (fun q => q.elim c7 (Int64.not_lt.mpr c18))], rfl⟩) d_B_isLifted_27
  · refine r_ald0 C (pc := 11) d_B_isLifted_11 ?_
    refine gX_B_push C (pc := 12) hS (by omega) k_55 d_B_isLifted_12 ?_
    refine r_iconst C (pc := 15) d_B_isLifted_15 ?_
    refine X_laldN C (pc := 16) hS (1) (by omega) (shB6 _) (by omega) (by omega) (by decide) d_B_isLifted_16 ?_
    refine r_lconst C (pc := 17) (v := 0) rfl d_B_isLifted_17 ?_
    refine r_lcmp_ge C (pc := 18) (tgt := 26) d_B_isLifted_18 d_B_isLifted_19 (by decide) (fun c18 => ?_) (fun c18 => ?_)
    · refine r_iconst C (pc := 26) d_B_isLifted_26 ?_
      exact r_zret C (pc := 27) hQ (by first | exact Or.inl rfl | exact Or.inr rfl | exact zb_01 _ | assumption) (⟨by first | rw [zb_pos (Or.inl c7)] | rw [zb_pos (Or.inr (Int64.not_le.mp c18))] | rw [zb_neg (fun q => q.elim c7 (Int64.not_lt.mpr c18))], rfl⟩) d_B_isLifted_27
    · refine r_iconst C (pc := 22) d_B_isLifted_22 ?_
      refine r_goto C (pc := 23) (tgt := 27) d_B_isLifted_23 (by decide) ?_
      exact r_zret C (pc := 27) hQ (by first | exact Or.inl rfl | exact Or.inr rfl | exact zb_01 _ | assumption) (⟨by first | rw [zb_pos (Or.inl c7)] | rw [zb_pos (Or.inr (Int64.not_le.mp c18))] | rw [zb_neg (fun q => q.elim c7 (Int64.not_lt.mpr c18))], rfl⟩) d_B_isLifted_27
set_option maxRecDepth 20000 in
theorem l_B_reckonPushes_27 {G : zG} (C : zC G b_B_reckonPushes "OldBeams$Beam" none 7 1 25) (hS : G.1 = sX) (M : zM) (i : Nat) (hi : i < 12) (L : Nat) (hL : M.1 (45 + 7 * i) 1 = (L : Int)) (hL6 : L ≤ 60) (h0 : 0 ≤ M.1 (45 + 7 * i + 1) 0 ∧ M.1 (45 + 7 * i + 1) 0 ≤ 60) (h1 : 0 ≤ M.1 (45 + 7 * i + 1) 1 ∧ M.1 (45 + 7 * i + 1) 1 ≤ 60) (hp : M.1 (45 + 7 * i + 1) 0 < M.1 (45 + 7 * i + 1) 1) (hQ : G.2.2.1 = zPv (fun M2 => zJ (zJ M (45 + 7 * i + 6) 1 (fdv (sm (fun x => M.2 (45 + 7 * i + 5) x * lI ((x : Int) - M.1 (45 + 7 * i + 1) 0)) (L + 1)) (lI (M.1 (45 + 7 * i + 1) 1 - M.1 (45 + 7 * i + 1) 0)))) (45 + 7 * i + 6) 0 (sm (fun x => M.2 (45 + 7 * i + 5) x) (L + 1) - fdv (sm (fun x => M.2 (45 + 7 * i + 5) x * lI ((x : Int) - M.1 (45 + 7 * i + 1) 0)) (L + 1)) (lI (M.1 (45 + 7 * i + 1) 1 - M.1 (45 + 7 * i + 1) 0))) = M2)) : ∀ (n : Nat) (j : Nat), (j ≤ L + 1) → (L + 1 - j < n) → VJ G M 27 [some (.ref (zad G (45 + 7 * i))), some (.int (iI (M.1 (45 + 7 * i + 1) 1 - M.1 (45 + 7 * i + 1) 0))), some (.long (sm (fun x => M.2 (45 + 7 * i + 5) x) j)), none, some (.long (sm (fun x => M.2 (45 + 7 * i + 5) x * lI ((x : Int) - M.1 (45 + 7 * i + 1) 0)) j)), none, some (.int (iI (j : Int)))] [] := by
  intro n
  induction n with
  | zero =>
    intro j hj hn
    exact absurd hn (by omega)
  | succ n ih =>
    intro j hj hn
    refine r_ild6 C (pc := 27) d_B_reckonPushes_27 ?_
    refine r_ald0 C (pc := 29) d_B_reckonPushes_29 ?_
    refine gX_B_length C (pc := 30) hS (by omega) k_35 d_B_reckonPushes_30 ?_
    rw [hL]
    refine r_icmp_gt C (pc := 33) (tgt := 75) (by omega) (by omega) d_B_reckonPushes_33 (by decide) (fun c33 => ?_) (fun c33 => ?_)
    · have ej : j = L + 1 := by omega
      subst ej
      refine r_ald0 C (pc := 75) d_B_reckonPushes_75 ?_
      refine gX_B_push C (pc := 76) hS (by omega) k_55 d_B_reckonPushes_76 ?_
      refine r_iconst C (pc := 79) d_B_reckonPushes_79 ?_
      refine r_lld4 C (pc := 80) d_B_reckonPushes_80 ?_
      refine r_ild1 C (pc := 82) d_B_reckonPushes_82 ?_
      refine r_i2l C (pc := 83) (by omega) d_B_reckonPushes_83 ?_
      refine call_Ma_floorDiv C (pc := 84) hS (c_Ma_floorDiv _ _ _ _ _ (by rw [← lI_0, lI_lt (by decide) ⟨by omega, by omega⟩]; omega)) k_370 (by decide) (Nat.le_of_ble_eq_true rfl) rfl d_B_reckonPushes_84 (kkL (fun r84 N84 h84 => ?_))
      obtain ⟨rfl, rfl⟩ := h84
      refine X_lastN C (pc := 87) hS (1) (by omega) (shB6 _) (by omega) (by omega) (by decide)  d_B_reckonPushes_87 ?_
      refine r_ald0 C (pc := 88) d_B_reckonPushes_88 ?_
      refine gX_B_push C (pc := 89) hS (by omega) k_55 d_B_reckonPushes_89 ?_
      refine r_iconst C (pc := 92) d_B_reckonPushes_92 ?_
      refine r_lld2 C (pc := 93) d_B_reckonPushes_93 ?_
      refine r_ald0 C (pc := 94) d_B_reckonPushes_94 ?_
      refine gX_B_push C (pc := 95) hS (by omega) k_55 d_B_reckonPushes_95 ?_
      refine r_iconst C (pc := 98) d_B_reckonPushes_98 ?_
      refine X_laldN C (pc := 99) hS (1) (by omega) (shB6 _) (by omega) (by omega) (by decide) d_B_reckonPushes_99 ?_
      rw [zJ_same]
      refine r_lsub C (pc := 100) d_B_reckonPushes_100 ?_
      refine X_lastN C (pc := 101) hS (0) (by omega) (shB6 _) (by omega) (by omega) (by decide)  d_B_reckonPushes_101 ?_
      exact r_vret C (pc := 102) hQ (rfl) d_B_reckonPushes_102
    · refine r_lld2 C (pc := 36) d_B_reckonPushes_36 ?_
      refine r_ald0 C (pc := 37) d_B_reckonPushes_37 ?_
      refine gX_B_forces C (pc := 38) hS (by omega) k_53 d_B_reckonPushes_38 ?_
      refine r_ild6 C (pc := 41) d_B_reckonPushes_41 ?_
      refine X_laldN C (pc := 43) hS (j) (by omega) (shB5 _) (by omega) (by omega) (by decide) d_B_reckonPushes_43 ?_
      refine r_ladd C (pc := 44) d_B_reckonPushes_44 ?_
      refine r_lst2 C (pc := 45) rfl d_B_reckonPushes_45 ?_
      refine r_lld4 C (pc := 46) d_B_reckonPushes_46 ?_
      refine r_ald0 C (pc := 48) d_B_reckonPushes_48 ?_
      refine gX_B_forces C (pc := 49) hS (by omega) k_53 d_B_reckonPushes_49 ?_
      refine r_ild6 C (pc := 52) d_B_reckonPushes_52 ?_
      refine X_laldN C (pc := 54) hS (j) (by omega) (shB5 _) (by omega) (by omega) (by decide) d_B_reckonPushes_54 ?_
      refine r_ild6 C (pc := 55) d_B_reckonPushes_55 ?_
      refine r_ald0 C (pc := 57) d_B_reckonPushes_57 ?_
      refine gX_B_place C (pc := 58) hS (by omega) k_44 d_B_reckonPushes_58 ?_
      refine r_iconst C (pc := 61) d_B_reckonPushes_61 ?_
      refine X_ialdN C (pc := 62) hS (0) (by omega) (shB1 _) (by omega) (by omega) (by decide) d_B_reckonPushes_62 ?_
      refine r_isub C (pc := 63) d_B_reckonPushes_63 ?_
      refine r_i2l C (pc := 64) (by omega) d_B_reckonPushes_64 ?_
      refine r_lmul C (pc := 65) d_B_reckonPushes_65 ?_
      refine r_ladd C (pc := 66) d_B_reckonPushes_66 ?_
      refine r_lst4 C (pc := 67) rfl d_B_reckonPushes_67 ?_
      refine r_iinc6 C (pc := 69) rfl d_B_reckonPushes_69 ?_
      refine r_goto C (pc := 72) (tgt := 27) d_B_reckonPushes_72 (by decide) ?_
      exact ih (j + 1) (by omega) (by omega)
set_option maxRecDepth 20000 in
theorem c_B_reckonPushes (l : Launch) (E : zE) (M : zM) (i : Nat) (hi : i < 12) (L : Nat) (hL : M.1 (45 + 7 * i) 1 = (L : Int)) (hL6 : L ≤ 60) (h0 : 0 ≤ M.1 (45 + 7 * i + 1) 0 ∧ M.1 (45 + 7 * i + 1) 0 ≤ 60) (h1 : 0 ≤ M.1 (45 + 7 * i + 1) 1 ∧ M.1 (45 + 7 * i + 1) 1 ≤ 60) (hp : M.1 (45 + 7 * i + 1) 0 < M.1 (45 + 7 * i + 1) 1) : zK l sX E y_B_reckonPushes b_B_reckonPushes 7 none 1 25 [.ref (E.2.2 (45 + 7 * i))] M (zPv (fun M2 => zJ (zJ M (45 + 7 * i + 6) 1 (fdv (sm (fun x => M.2 (45 + 7 * i + 5) x * lI ((x : Int) - M.1 (45 + 7 * i + 1) 0)) (L + 1)) (lI (M.1 (45 + 7 * i + 1) 1 - M.1 (45 + 7 * i + 1) 0)))) (45 + 7 * i + 6) 0 (sm (fun x => M.2 (45 + 7 * i + 5) x) (L + 1) - fdv (sm (fun x => M.2 (45 + 7 * i + 5) x * lI ((x : Int) - M.1 (45 + 7 * i + 1) 0)) (L + 1)) (lI (M.1 (45 + 7 * i + 1) 1 - M.1 (45 + 7 * i + 1) 0))) = M2)) := by
  refine zK.of "OldBeams$Beam" rfl (by decide) (Nat.le_of_ble_eq_true rfl) ?_
  intro G hS hE hQ hL C
  subst hE
  subst hL
  show VJ G M 0 [some (.ref (G.2.1.2.2 (45 + 7 * i))), none, none, none, none, none, none] []
  refine r_ald0 C (pc := 0) d_B_reckonPushes_0 ?_
  refine gX_B_place C (pc := 1) hS (by omega) k_44 d_B_reckonPushes_1 ?_
  refine r_iconst C (pc := 4) d_B_reckonPushes_4 ?_
  refine X_ialdN C (pc := 5) hS (1) (by omega) (shB1 _) (by omega) (by omega) (by decide) d_B_reckonPushes_5 ?_
  refine r_ald0 C (pc := 6) d_B_reckonPushes_6 ?_
  refine gX_B_place C (pc := 7) hS (by omega) k_44 d_B_reckonPushes_7 ?_
  refine r_iconst C (pc := 10) d_B_reckonPushes_10 ?_
  refine X_ialdN C (pc := 11) hS (0) (by omega) (shB1 _) (by omega) (by omega) (by decide) d_B_reckonPushes_11 ?_
  refine r_isub C (pc := 12) d_B_reckonPushes_12 ?_
  refine r_ist1 C (pc := 13) rfl d_B_reckonPushes_13 ?_
  refine r_ild1 C (pc := 14) d_B_reckonPushes_14 ?_
  refine r_if_gt C (pc := 15) (tgt := 19) (by omega) d_B_reckonPushes_15 (by decide) (fun c15 => ?_) (fun c15 => ?_)
  · refine r_lconst C (pc := 19) (v := 0) rfl d_B_reckonPushes_19 ?_
    refine r_lst2 C (pc := 20) rfl d_B_reckonPushes_20 ?_
    refine r_lconst C (pc := 21) (v := 0) rfl d_B_reckonPushes_21 ?_
    refine r_lst4 C (pc := 22) rfl d_B_reckonPushes_22 ?_
    refine r_iconst C (pc := 24) d_B_reckonPushes_24 ?_
    refine r_ist6 C (pc := 25) rfl d_B_reckonPushes_25 ?_
    exact l_B_reckonPushes_27 C hS M i hi L hL hL6 h0 h1 hp hQ (L + 2) 0 (by omega) (by omega)
  · omega
set_option maxRecDepth 20000 in
theorem l_B_reckonGreatest_17 {G : zG} (C : zC G b_B_reckonGreatest "OldBeams$Beam" none 8 1 21) (hS : G.1 = sX) (M : zM) (i : Nat) (hi : i < 12) (L : Nat) (hL : M.1 (45 + 7 * i) 1 = (L : Int)) (hL6 : L ≤ 60) (h0 : 0 ≤ M.1 (45 + 7 * i + 1) 0 ∧ M.1 (45 + 7 * i + 1) 0 ≤ 60) (h1 : 0 ≤ M.1 (45 + 7 * i + 1) 1 ∧ M.1 (45 + 7 * i + 1) 1 ≤ 60) (hp : M.1 (45 + 7 * i + 1) 0 < M.1 (45 + 7 * i + 1) 1) (hQ : G.2.2.1 = zPv (fun M2 => (zI (zJ M (45 + 7 * i) 11 (grN (bdG (fun x => M.2 (45 + 7 * i + 5) x) (M.1 (45 + 7 * i + 1) 0) (M.1 (45 + 7 * i + 1) 1) (M.2 (45 + 7 * i + 6) 0) (M.2 (45 + 7 * i + 6) 1)) (L + 1)).1) (45 + 7 * i) 12 ((grN (bdG (fun x => M.2 (45 + 7 * i + 5) x) (M.1 (45 + 7 * i + 1) 0) (M.1 (45 + 7 * i + 1) 1) (M.2 (45 + 7 * i + 6) 0) (M.2 (45 + 7 * i + 6) 1)) (L + 1)).2 : Int)) = M2)) : ∀ (n : Nat) (j : Nat) (bent psh : Int64), (j ≤ L + 1) → (L + 1 - j < n) → (bent = (bdG (fun x => M.2 (45 + 7 * i + 5) x) (M.1 (45 + 7 * i + 1) 0) (M.1 (45 + 7 * i + 1) 1) (M.2 (45 + 7 * i + 6) 0) (M.2 (45 + 7 * i + 6) 1)) j) → (psh = (wG (fun x => M.2 (45 + 7 * i + 5) x) (M.1 (45 + 7 * i + 1) 0) (M.1 (45 + 7 * i + 1) 1) (M.2 (45 + 7 * i + 6) 0) (M.2 (45 + 7 * i + 6) 1)) j) → VJ G (zI (zJ M (45 + 7 * i) 11 (grN (bdG (fun x => M.2 (45 + 7 * i + 5) x) (M.1 (45 + 7 * i + 1) 0) (M.1 (45 + 7 * i + 1) 1) (M.2 (45 + 7 * i + 6) 0) (M.2 (45 + 7 * i + 6) 1)) (j)).1) (45 + 7 * i) 12 ((grN (bdG (fun x => M.2 (45 + 7 * i + 5) x) (M.1 (45 + 7 * i + 1) 0) (M.1 (45 + 7 * i + 1) 1) (M.2 (45 + 7 * i + 6) 0) (M.2 (45 + 7 * i + 6) 1)) (j)).2 : Int)) 17 [some (.ref (zad G (45 + 7 * i))), some (.long bent), none, some (.long psh), none, some (.int (iI (j : Int))), none, none] [] := by
  intro n
  induction n with
  | zero =>
    intro j bent psh hj hn eb0 ep
    exact absurd hn (by omega)
  | succ n ih =>
    intro j bent psh hj hn eb0 ep
    refine r_ild5 C (pc := 17) d_B_reckonGreatest_17 ?_
    refine r_ald0 C (pc := 19) d_B_reckonGreatest_19 ?_
    refine gX_B_length C (pc := 20) hS (by omega) k_35 d_B_reckonGreatest_20 ?_
    rw [show (zI (zJ M (45 + 7 * i) 11 (grN (bdG (fun x => M.2 (45 + 7 * i + 5) x) (M.1 (45 + 7 * i + 1) 0) (M.1 (45 + 7 * i + 1) 1) (M.2 (45 + 7 * i + 6) 0) (M.2 (45 + 7 * i + 6) 1)) j).1) (45 + 7 * i) 12 ((grN (bdG (fun x => M.2 (45 + 7 * i + 5) x) (M.1 (45 + 7 * i + 1) 0) (M.1 (45 + 7 * i + 1) 1) (M.2 (45 + 7 * i + 6) 0) (M.2 (45 + 7 * i + 6) 1)) j).2 : Int)).1 (45 + 7 * i) 1 = (L : Int) by rw [zI_row (by decide)]; exact hL]
    refine r_icmp_gt C (pc := 23) (tgt := 114) (by omega) (by omega) d_B_reckonGreatest_23 (by decide) (fun c23 => ?_) (fun c23 => ?_)
    · exact r_vret C (pc := 114) hQ (by rw [show j = L + 1 by omega]) d_B_reckonGreatest_114
    · have K54 : VJ G (zI (zJ M (45 + 7 * i) 11 (grN (bdG (fun x => M.2 (45 + 7 * i + 5) x) (M.1 (45 + 7 * i + 1) 0) (M.1 (45 + 7 * i + 1) 1) (M.2 (45 + 7 * i + 6) 0) (M.2 (45 + 7 * i + 6) 1)) (j + 1)).1) (45 + 7 * i) 12 ((grN (bdG (fun x => M.2 (45 + 7 * i + 5) x) (M.1 (45 + 7 * i + 1) 0) (M.1 (45 + 7 * i + 1) 1) (M.2 (45 + 7 * i + 6) 0) (M.2 (45 + 7 * i + 6) 1)) (j + 1)).2 : Int)) 54 [some (.ref (zad G (45 + 7 * i))), some (.long bent), none, some (.long psh), none, some (.int (iI (j : Int))), some (.long (ab bent)), none] [] := by
        have ew := wG_succ (fun x => M.2 (45 + 7 * i + 5) x) (M.1 (45 + 7 * i + 1) 0) (M.1 (45 + 7 * i + 1) 1) (M.2 (45 + 7 * i + 6) 0) (M.2 (45 + 7 * i + 6) 1) j
        have eb := bdG_succ (fun x => M.2 (45 + 7 * i + 5) x) (M.1 (45 + 7 * i + 1) 0) (M.1 (45 + 7 * i + 1) 1) (M.2 (45 + 7 * i + 6) 0) (M.2 (45 + 7 * i + 6) 1) j
        refine r_lld3 C (pc := 54) d_B_reckonGreatest_54 ?_
        refine r_ald0 C (pc := 55) d_B_reckonGreatest_55 ?_
        refine gX_B_forces C (pc := 56) hS (by omega) k_53 d_B_reckonGreatest_56 ?_
        refine r_ild5 C (pc := 59) d_B_reckonGreatest_59 ?_
        refine X_laldN C (pc := 61) hS (j) (by omega) (shB5 _) (by omega) (by omega) (by decide) d_B_reckonGreatest_61 ?_
        rw [show (zI (zJ M (45 + 7 * i) 11 (grN (bdG (fun x => M.2 (45 + 7 * i + 5) x) (M.1 (45 + 7 * i + 1) 0) (M.1 (45 + 7 * i + 1) 1) (M.2 (45 + 7 * i + 6) 0) (M.2 (45 + 7 * i + 6) 1)) (j + 1)).1) (45 + 7 * i) 12 ((grN (bdG (fun x => M.2 (45 + 7 * i + 5) x) (M.1 (45 + 7 * i + 1) 0) (M.1 (45 + 7 * i + 1) 1) (M.2 (45 + 7 * i + 6) 0) (M.2 (45 + 7 * i + 6) 1)) (j + 1)).2 : Int)).2 (45 + 7 * i + 5) j = M.2 (45 + 7 * i + 5) j by rw [zI_2, zJ_ne (by omega)]]
        refine r_ladd C (pc := 62) d_B_reckonGreatest_62 ?_
        refine r_lst3 C (pc := 63) rfl d_B_reckonGreatest_63 ?_
        refine r_ild5 C (pc := 64) d_B_reckonGreatest_64 ?_
        refine r_ald0 C (pc := 66) d_B_reckonGreatest_66 ?_
        refine gX_B_place C (pc := 67) hS (by omega) k_44 d_B_reckonGreatest_67 ?_
        refine r_iconst C (pc := 70) d_B_reckonGreatest_70 ?_
        refine X_ialdN C (pc := 71) hS (0) (by omega) (shB1 _) (by omega) (by omega) (by decide) d_B_reckonGreatest_71 ?_
        rw [show (zI (zJ M (45 + 7 * i) 11 (grN (bdG (fun x => M.2 (45 + 7 * i + 5) x) (M.1 (45 + 7 * i + 1) 0) (M.1 (45 + 7 * i + 1) 1) (M.2 (45 + 7 * i + 6) 0) (M.2 (45 + 7 * i + 6) 1)) (j + 1)).1) (45 + 7 * i) 12 ((grN (bdG (fun x => M.2 (45 + 7 * i + 5) x) (M.1 (45 + 7 * i + 1) 0) (M.1 (45 + 7 * i + 1) 1) (M.2 (45 + 7 * i + 6) 0) (M.2 (45 + 7 * i + 6) 1)) (j + 1)).2 : Int)).1 (45 + 7 * i + 1) 0 = M.1 (45 + 7 * i + 1) 0 by rw [zI_ne (by omega), zJ_1]]
        refine r_icmp_ne C (pc := 72) (tgt := 84) (by omega) (by omega) d_B_reckonGreatest_72 (by decide) (fun c72 => ?_) (fun c72 => ?_)
        · refine r_ild5 C (pc := 84) d_B_reckonGreatest_84 ?_
          refine r_ald0 C (pc := 86) d_B_reckonGreatest_86 ?_
          refine gX_B_place C (pc := 87) hS (by omega) k_44 d_B_reckonGreatest_87 ?_
          refine r_iconst C (pc := 90) d_B_reckonGreatest_90 ?_
          refine X_ialdN C (pc := 91) hS (1) (by omega) (shB1 _) (by omega) (by omega) (by decide) d_B_reckonGreatest_91 ?_
          rw [show (zI (zJ M (45 + 7 * i) 11 (grN (bdG (fun x => M.2 (45 + 7 * i + 5) x) (M.1 (45 + 7 * i + 1) 0) (M.1 (45 + 7 * i + 1) 1) (M.2 (45 + 7 * i + 6) 0) (M.2 (45 + 7 * i + 6) 1)) (j + 1)).1) (45 + 7 * i) 12 ((grN (bdG (fun x => M.2 (45 + 7 * i + 5) x) (M.1 (45 + 7 * i + 1) 0) (M.1 (45 + 7 * i + 1) 1) (M.2 (45 + 7 * i + 6) 0) (M.2 (45 + 7 * i + 6) 1)) (j + 1)).2 : Int)).1 (45 + 7 * i + 1) 1 = M.1 (45 + 7 * i + 1) 1 by rw [zI_ne (by omega), zJ_1]]
          refine r_icmp_ne C (pc := 92) (tgt := 104) (by omega) (by omega) d_B_reckonGreatest_92 (by decide) (fun c92 => ?_) (fun c92 => ?_)
          · refine r_lld1 C (pc := 104) d_B_reckonGreatest_104 ?_
            refine r_lld3 C (pc := 105) d_B_reckonGreatest_105 ?_
            refine r_ladd C (pc := 106) d_B_reckonGreatest_106 ?_
            refine r_lst1 C (pc := 107) rfl d_B_reckonGreatest_107 ?_
            refine r_iinc5 C (pc := 108) rfl d_B_reckonGreatest_108 ?_
            refine r_goto C (pc := 111) (tgt := 17) d_B_reckonGreatest_111 (by decide) ?_
            first | rw [if_pos c72] at ew | rw [if_neg c72] at ew
            first | rw [if_pos c92] at ew | rw [if_neg c92] at ew
            simp only [Int64.sub_zero, ← ep] at ew
            rw [← eb0, ew] at eb
            refine r_weak ?_ (ih (j + 1) _ _ (by omega) (by omega) eb.symm ew.symm)
            exact ⟨Or.inr rfl, Or.inr rfl, Or.inr rfl, Or.inr rfl, Or.inr rfl, Or.inr rfl, Or.inl rfl, Or.inl rfl, trivial⟩
          · refine r_lld3 C (pc := 95) d_B_reckonGreatest_95 ?_
            refine r_ald0 C (pc := 96) d_B_reckonGreatest_96 ?_
            refine gX_B_push C (pc := 97) hS (by omega) k_55 d_B_reckonGreatest_97 ?_
            refine r_iconst C (pc := 100) d_B_reckonGreatest_100 ?_
            refine X_laldN C (pc := 101) hS (1) (by omega) (shB6 _) (by omega) (by omega) (by decide) d_B_reckonGreatest_101 ?_
            rw [show (zI (zJ M (45 + 7 * i) 11 (grN (bdG (fun x => M.2 (45 + 7 * i + 5) x) (M.1 (45 + 7 * i + 1) 0) (M.1 (45 + 7 * i + 1) 1) (M.2 (45 + 7 * i + 6) 0) (M.2 (45 + 7 * i + 6) 1)) (j + 1)).1) (45 + 7 * i) 12 ((grN (bdG (fun x => M.2 (45 + 7 * i + 5) x) (M.1 (45 + 7 * i + 1) 0) (M.1 (45 + 7 * i + 1) 1) (M.2 (45 + 7 * i + 6) 0) (M.2 (45 + 7 * i + 6) 1)) (j + 1)).2 : Int)).2 (45 + 7 * i + 6) 1 = M.2 (45 + 7 * i + 6) 1 by rw [zI_2, zJ_ne (by omega)]]
            refine r_lsub C (pc := 102) d_B_reckonGreatest_102 ?_
            refine r_lst3 C (pc := 103) rfl d_B_reckonGreatest_103 ?_
            refine r_lld1 C (pc := 104) d_B_reckonGreatest_104 ?_
            refine r_lld3 C (pc := 105) d_B_reckonGreatest_105 ?_
            refine r_ladd C (pc := 106) d_B_reckonGreatest_106 ?_
            refine r_lst1 C (pc := 107) rfl d_B_reckonGreatest_107 ?_
            refine r_iinc5 C (pc := 108) rfl d_B_reckonGreatest_108 ?_
            refine r_goto C (pc := 111) (tgt := 17) d_B_reckonGreatest_111 (by decide) ?_
            first | rw [if_pos c72] at ew | rw [if_neg c72] at ew
            first | rw [if_pos c92] at ew | rw [if_neg c92] at ew
            simp only [Int64.sub_zero, ← ep] at ew
            rw [← eb0, ew] at eb
            refine r_weak ?_ (ih (j + 1) _ _ (by omega) (by omega) eb.symm ew.symm)
            exact ⟨Or.inr rfl, Or.inr rfl, Or.inr rfl, Or.inr rfl, Or.inr rfl, Or.inr rfl, Or.inl rfl, Or.inl rfl, trivial⟩
        · refine r_lld3 C (pc := 75) d_B_reckonGreatest_75 ?_
          refine r_ald0 C (pc := 76) d_B_reckonGreatest_76 ?_
          refine gX_B_push C (pc := 77) hS (by omega) k_55 d_B_reckonGreatest_77 ?_
          refine r_iconst C (pc := 80) d_B_reckonGreatest_80 ?_
          refine X_laldN C (pc := 81) hS (0) (by omega) (shB6 _) (by omega) (by omega) (by decide) d_B_reckonGreatest_81 ?_
          rw [show (zI (zJ M (45 + 7 * i) 11 (grN (bdG (fun x => M.2 (45 + 7 * i + 5) x) (M.1 (45 + 7 * i + 1) 0) (M.1 (45 + 7 * i + 1) 1) (M.2 (45 + 7 * i + 6) 0) (M.2 (45 + 7 * i + 6) 1)) (j + 1)).1) (45 + 7 * i) 12 ((grN (bdG (fun x => M.2 (45 + 7 * i + 5) x) (M.1 (45 + 7 * i + 1) 0) (M.1 (45 + 7 * i + 1) 1) (M.2 (45 + 7 * i + 6) 0) (M.2 (45 + 7 * i + 6) 1)) (j + 1)).2 : Int)).2 (45 + 7 * i + 6) 0 = M.2 (45 + 7 * i + 6) 0 by rw [zI_2, zJ_ne (by omega)]]
          refine r_lsub C (pc := 82) d_B_reckonGreatest_82 ?_
          refine r_lst3 C (pc := 83) rfl d_B_reckonGreatest_83 ?_
          refine r_ild5 C (pc := 84) d_B_reckonGreatest_84 ?_
          refine r_ald0 C (pc := 86) d_B_reckonGreatest_86 ?_
          refine gX_B_place C (pc := 87) hS (by omega) k_44 d_B_reckonGreatest_87 ?_
          refine r_iconst C (pc := 90) d_B_reckonGreatest_90 ?_
          refine X_ialdN C (pc := 91) hS (1) (by omega) (shB1 _) (by omega) (by omega) (by decide) d_B_reckonGreatest_91 ?_
          rw [show (zI (zJ M (45 + 7 * i) 11 (grN (bdG (fun x => M.2 (45 + 7 * i + 5) x) (M.1 (45 + 7 * i + 1) 0) (M.1 (45 + 7 * i + 1) 1) (M.2 (45 + 7 * i + 6) 0) (M.2 (45 + 7 * i + 6) 1)) (j + 1)).1) (45 + 7 * i) 12 ((grN (bdG (fun x => M.2 (45 + 7 * i + 5) x) (M.1 (45 + 7 * i + 1) 0) (M.1 (45 + 7 * i + 1) 1) (M.2 (45 + 7 * i + 6) 0) (M.2 (45 + 7 * i + 6) 1)) (j + 1)).2 : Int)).1 (45 + 7 * i + 1) 1 = M.1 (45 + 7 * i + 1) 1 by rw [zI_ne (by omega), zJ_1]]
          refine r_icmp_ne C (pc := 92) (tgt := 104) (by omega) (by omega) d_B_reckonGreatest_92 (by decide) (fun c92 => ?_) (fun c92 => ?_)
          · refine r_lld1 C (pc := 104) d_B_reckonGreatest_104 ?_
            refine r_lld3 C (pc := 105) d_B_reckonGreatest_105 ?_
            refine r_ladd C (pc := 106) d_B_reckonGreatest_106 ?_
            refine r_lst1 C (pc := 107) rfl d_B_reckonGreatest_107 ?_
            refine r_iinc5 C (pc := 108) rfl d_B_reckonGreatest_108 ?_
            refine r_goto C (pc := 111) (tgt := 17) d_B_reckonGreatest_111 (by decide) ?_
            first | rw [if_pos c72] at ew | rw [if_neg c72] at ew
            first | rw [if_pos c92] at ew | rw [if_neg c92] at ew
            simp only [Int64.sub_zero, ← ep] at ew
            rw [← eb0, ew] at eb
            refine r_weak ?_ (ih (j + 1) _ _ (by omega) (by omega) eb.symm ew.symm)
            exact ⟨Or.inr rfl, Or.inr rfl, Or.inr rfl, Or.inr rfl, Or.inr rfl, Or.inr rfl, Or.inl rfl, Or.inl rfl, trivial⟩
          · refine r_lld3 C (pc := 95) d_B_reckonGreatest_95 ?_
            refine r_ald0 C (pc := 96) d_B_reckonGreatest_96 ?_
            refine gX_B_push C (pc := 97) hS (by omega) k_55 d_B_reckonGreatest_97 ?_
            refine r_iconst C (pc := 100) d_B_reckonGreatest_100 ?_
            refine X_laldN C (pc := 101) hS (1) (by omega) (shB6 _) (by omega) (by omega) (by decide) d_B_reckonGreatest_101 ?_
            rw [show (zI (zJ M (45 + 7 * i) 11 (grN (bdG (fun x => M.2 (45 + 7 * i + 5) x) (M.1 (45 + 7 * i + 1) 0) (M.1 (45 + 7 * i + 1) 1) (M.2 (45 + 7 * i + 6) 0) (M.2 (45 + 7 * i + 6) 1)) (j + 1)).1) (45 + 7 * i) 12 ((grN (bdG (fun x => M.2 (45 + 7 * i + 5) x) (M.1 (45 + 7 * i + 1) 0) (M.1 (45 + 7 * i + 1) 1) (M.2 (45 + 7 * i + 6) 0) (M.2 (45 + 7 * i + 6) 1)) (j + 1)).2 : Int)).2 (45 + 7 * i + 6) 1 = M.2 (45 + 7 * i + 6) 1 by rw [zI_2, zJ_ne (by omega)]]
            refine r_lsub C (pc := 102) d_B_reckonGreatest_102 ?_
            refine r_lst3 C (pc := 103) rfl d_B_reckonGreatest_103 ?_
            refine r_lld1 C (pc := 104) d_B_reckonGreatest_104 ?_
            refine r_lld3 C (pc := 105) d_B_reckonGreatest_105 ?_
            refine r_ladd C (pc := 106) d_B_reckonGreatest_106 ?_
            refine r_lst1 C (pc := 107) rfl d_B_reckonGreatest_107 ?_
            refine r_iinc5 C (pc := 108) rfl d_B_reckonGreatest_108 ?_
            refine r_goto C (pc := 111) (tgt := 17) d_B_reckonGreatest_111 (by decide) ?_
            first | rw [if_pos c72] at ew | rw [if_neg c72] at ew
            first | rw [if_pos c92] at ew | rw [if_neg c92] at ew
            simp only [Int64.sub_zero, ← ep] at ew
            rw [← eb0, ew] at eb
            refine r_weak ?_ (ih (j + 1) _ _ (by omega) (by omega) eb.symm ew.symm)
            exact ⟨Or.inr rfl, Or.inr rfl, Or.inr rfl, Or.inr rfl, Or.inr rfl, Or.inr rfl, Or.inl rfl, Or.inl rfl, trivial⟩
      refine r_lld1 C (pc := 26) d_B_reckonGreatest_26 ?_
      refine call_Ma_abs C (pc := 27) hS (c_Ma_abs _ _ _ _) k_377 (by decide) (Nat.le_of_ble_eq_true rfl) rfl d_B_reckonGreatest_27 (kkL (fun r27 N27 h27 => ?_))
      obtain ⟨rfl, rfl⟩ := h27
      refine r_lst6 C (pc := 30) rfl d_B_reckonGreatest_30 ?_
      refine r_lld6 C (pc := 32) d_B_reckonGreatest_32 ?_
      refine r_ald0 C (pc := 34) d_B_reckonGreatest_34 ?_
      refine gX_B_greatestBending C (pc := 35) hS (by omega) k_58 d_B_reckonGreatest_35 ?_
      rw [show (zI (zJ M (45 + 7 * i) 11 (grN (bdG (fun x => M.2 (45 + 7 * i + 5) x) (M.1 (45 + 7 * i + 1) 0) (M.1 (45 + 7 * i + 1) 1) (M.2 (45 + 7 * i + 6) 0) (M.2 (45 + 7 * i + 6) 1)) (j)).1) (45 + 7 * i) 12 ((grN (bdG (fun x => M.2 (45 + 7 * i + 5) x) (M.1 (45 + 7 * i + 1) 0) (M.1 (45 + 7 * i + 1) 1) (M.2 (45 + 7 * i + 6) 0) (M.2 (45 + 7 * i + 6) 1)) (j)).2 : Int)).2 (45 + 7 * i) 11 = (grN (bdG (fun x => M.2 (45 + 7 * i + 5) x) (M.1 (45 + 7 * i + 1) 0) (M.1 (45 + 7 * i + 1) 1) (M.2 (45 + 7 * i + 6) 0) (M.2 (45 + 7 * i + 6) 1)) j).1 by rw [zI_2, zJ_same]]
      refine r_lcmp_le C (pc := 38) (tgt := 54) d_B_reckonGreatest_38 d_B_reckonGreatest_39 (by decide) (fun c38 => ?_) (fun c38 => ?_)
      · refine r_mem ?_ K54
        rw [grN, ← eb0]
        first | rw [if_pos (Int64.not_le.mp c38), zJ_zI, zJ_zJ, zI_zI] | rw [if_neg (Int64.not_lt.mpr c38)]
      · refine r_ald0 C (pc := 42) d_B_reckonGreatest_42 ?_
        refine r_lld6 C (pc := 43) d_B_reckonGreatest_43 ?_
        refine pX_B_greatestBending C (pc := 45) hS (by omega) k_58 d_B_reckonGreatest_45 ?_
        refine r_ald0 C (pc := 48) d_B_reckonGreatest_48 ?_
        refine r_ild5 C (pc := 49) d_B_reckonGreatest_49 ?_
        refine pX_B_greatestPlace C (pc := 51) hS (by omega) k_61 d_B_reckonGreatest_51 ?_
        refine r_mem ?_ K54
        rw [grN, ← eb0]
        first | rw [if_pos (Int64.not_le.mp c38), zJ_zI, zJ_zJ, zI_zI] | rw [if_neg (Int64.not_lt.mpr c38)]
set_option maxRecDepth 20000 in
theorem c_B_reckonGreatest (l : Launch) (E : zE) (M : zM) (i : Nat) (hi : i < 12) (L : Nat) (hL : M.1 (45 + 7 * i) 1 = (L : Int)) (hL6 : L ≤ 60) (h0 : 0 ≤ M.1 (45 + 7 * i + 1) 0 ∧ M.1 (45 + 7 * i + 1) 0 ≤ 60) (h1 : 0 ≤ M.1 (45 + 7 * i + 1) 1 ∧ M.1 (45 + 7 * i + 1) 1 ≤ 60) (hp : M.1 (45 + 7 * i + 1) 0 < M.1 (45 + 7 * i + 1) 1) : zK l sX E y_B_reckonGreatest b_B_reckonGreatest 8 none 1 21 [.ref (E.2.2 (45 + 7 * i))] M (zPv (fun M2 => (zI (zJ M (45 + 7 * i) 11 (grN (bdG (fun x => M.2 (45 + 7 * i + 5) x) (M.1 (45 + 7 * i + 1) 0) (M.1 (45 + 7 * i + 1) 1) (M.2 (45 + 7 * i + 6) 0) (M.2 (45 + 7 * i + 6) 1)) (L + 1)).1) (45 + 7 * i) 12 ((grN (bdG (fun x => M.2 (45 + 7 * i + 5) x) (M.1 (45 + 7 * i + 1) 0) (M.1 (45 + 7 * i + 1) 1) (M.2 (45 + 7 * i + 6) 0) (M.2 (45 + 7 * i + 6) 1)) (L + 1)).2 : Int)) = M2)) := by
  refine zK.of "OldBeams$Beam" rfl (by decide) (Nat.le_of_ble_eq_true rfl) ?_
  intro G hS hE hQ hL C
  subst hE
  subst hL
  show VJ G M 0 [some (.ref (G.2.1.2.2 (45 + 7 * i))), none, none, none, none, none, none, none] []
  refine r_ald0 C (pc := 0) d_B_reckonGreatest_0 ?_
  refine r_lconst C (pc := 1) (v := 0) rfl d_B_reckonGreatest_1 ?_
  refine pX_B_greatestBending C (pc := 2) hS (by omega) k_58 d_B_reckonGreatest_2 ?_
  refine r_ald0 C (pc := 5) d_B_reckonGreatest_5 ?_
  refine r_iconst C (pc := 6) d_B_reckonGreatest_6 ?_
  refine pX_B_greatestPlace C (pc := 7) hS (by omega) k_61 d_B_reckonGreatest_7 ?_
  refine r_lconst C (pc := 10) (v := 0) rfl d_B_reckonGreatest_10 ?_
  refine r_lst1 C (pc := 11) rfl d_B_reckonGreatest_11 ?_
  refine r_lconst C (pc := 12) (v := 0) rfl d_B_reckonGreatest_12 ?_
  refine r_lst3 C (pc := 13) rfl d_B_reckonGreatest_13 ?_
  refine r_iconst C (pc := 14) d_B_reckonGreatest_14 ?_
  refine r_ist5 C (pc := 15) rfl d_B_reckonGreatest_15 ?_
  exact l_B_reckonGreatest_17 C hS M i hi L hL hL6 h0 h1 hp hQ (L + 2) 0 0 0 (by omega) (by omega) (bdG_0 _ _ _ _ _ h0.1 h1.1).symm (wG_0 _ _ _ _ _ h0.1 h1.1).symm
set_option maxRecDepth 20000 in
theorem l_B_bendingAt_5 {G : zG} (C : zC G b_B_bendingAt "OldBeams$Beam" (some .long) 5 0 0) (hS : G.1 = sX) (M : zM) (i : Nat) (hi : i < 12) (L : Nat) (hL : M.1 (45 + 7 * i) 1 = (L : Int)) (hL6 : L ≤ 60) (h0 : 0 ≤ M.1 (45 + 7 * i + 1) 0 ∧ M.1 (45 + 7 * i + 1) 0 ≤ 60) (h1 : 0 ≤ M.1 (45 + 7 * i + 1) 1 ∧ M.1 (45 + 7 * i + 1) 1 ≤ 60) (x : Nat) (hx : x ≤ L) (hQ : G.2.2.1 = zPl (fun r M2 => r = (bdG (fun x => M.2 (45 + 7 * i + 5) x) (M.1 (45 + 7 * i + 1) 0) (M.1 (45 + 7 * i + 1) 1) (M.2 (45 + 7 * i + 6) 0) (M.2 (45 + 7 * i + 6) 1)) x ∧ M = M2)) : ∀ (n : Nat) (j : Nat), (j ≤ x) → (x - j < n) → VJ G M 5 [some (.ref (zad G (45 + 7 * i))), some (.int (iI (x : Int))), some (.long (sm (fun p => M.2 (45 + 7 * i + 5) p * lI ((x : Int) - (p : Int))) j)), none, some (.int (iI (j : Int)))] [] := by
  intro n
  induction n with
  | zero =>
    intro j hj hn
    exact absurd hn (by omega)
  | succ n ih =>
    intro j hj hn
    refine r_ild4 C (pc := 5) d_B_bendingAt_5 ?_
    refine r_ild1 C (pc := 7) d_B_bendingAt_7 ?_
    refine r_icmp_ge C (pc := 8) (tgt := 42) (by omega) (by omega) d_B_bendingAt_8 (by decide) (fun c8 => ?_) (fun c8 => ?_)
    · have ej : j = x := by omega
      subst ej
      refine r_iconst C (pc := 42) d_B_bendingAt_42 ?_
      refine r_ist4 C (pc := 43) rfl d_B_bendingAt_43 ?_
      refine r_ild4 C (pc := 45) d_B_bendingAt_45 ?_
      refine r_iconst C (pc := 47) d_B_bendingAt_47 ?_
      refine r_icmp_ge C (pc := 48) (tgt := 89) (by omega) (by omega) d_B_bendingAt_48 (by decide) (fun c48 => ?_) (fun c48 => ?_)
      · exact absurd c48 (by decide)
      · refine r_ald0 C (pc := 51) d_B_bendingAt_51 ?_
        refine gX_B_place C (pc := 52) hS (by omega) k_44 d_B_bendingAt_52 ?_
        refine r_ild4 C (pc := 55) d_B_bendingAt_55 ?_
        refine X_ialdN C (pc := 57) hS (0) (by omega) (shB1 _) (by omega) (by omega) (by decide) d_B_bendingAt_57 ?_
        refine r_ild1 C (pc := 58) d_B_bendingAt_58 ?_
        refine r_icmp_ge C (pc := 59) (tgt := 83) (by omega) (by omega) d_B_bendingAt_59 (by decide) (fun c59 => ?_) (fun c59 => ?_)
        · refine r_iinc4 C (pc := 83) rfl d_B_bendingAt_83 ?_
          refine r_goto C (pc := 86) (tgt := 45) d_B_bendingAt_86 (by decide) ?_
          refine r_ild4 C (pc := 45) d_B_bendingAt_45 ?_
          refine r_iconst C (pc := 47) d_B_bendingAt_47 ?_
          refine r_icmp_ge C (pc := 48) (tgt := 89) (by omega) (by omega) d_B_bendingAt_48 (by decide) (fun c48b => ?_) (fun c48b => ?_)
          · exact absurd c48b (by decide)
          · refine r_ald0 C (pc := 51) d_B_bendingAt_51 ?_
            refine gX_B_place C (pc := 52) hS (by omega) k_44 d_B_bendingAt_52 ?_
            refine r_ild4 C (pc := 55) d_B_bendingAt_55 ?_
            refine X_ialdN C (pc := 57) hS (1) (by omega) (shB1 _) (by omega) (by omega) (by decide) d_B_bendingAt_57 ?_
            refine r_ild1 C (pc := 58) d_B_bendingAt_58 ?_
            refine r_icmp_ge C (pc := 59) (tgt := 83) (by omega) (by omega) d_B_bendingAt_59 (by decide) (fun c59b => ?_) (fun c59b => ?_)
            · refine r_iinc4 C (pc := 83) rfl d_B_bendingAt_83 ?_
              refine r_goto C (pc := 86) (tgt := 45) d_B_bendingAt_86 (by decide) ?_
              refine r_ild4 C (pc := 45) d_B_bendingAt_45 ?_
              refine r_iconst C (pc := 47) d_B_bendingAt_47 ?_
              refine r_icmp_ge C (pc := 48) (tgt := 89) (by omega) (by omega) d_B_bendingAt_48 (by decide) (fun c48c => ?_) (fun c48c => ?_)
              · refine r_lld2 C (pc := 89) d_B_bendingAt_89 ?_
                exact r_lret C (pc := 90) hQ (⟨by unfold bdG; (first | rw [if_pos (show M.1 (45 + 7 * i + 1) 0 < (j : Int) by omega)] | rw [if_neg (show ¬ M.1 (45 + 7 * i + 1) 0 < (j : Int) by omega)]); (first | rw [if_pos (show M.1 (45 + 7 * i + 1) 1 < (j : Int) by omega)] | rw [if_neg (show ¬ M.1 (45 + 7 * i + 1) 1 < (j : Int) by omega)]); (try simp only [Int64.sub_zero]), rfl⟩) d_B_bendingAt_90
              · exact absurd c48c (by decide)
            · refine r_lld2 C (pc := 62) d_B_bendingAt_62 ?_
              refine r_ald0 C (pc := 63) d_B_bendingAt_63 ?_
              refine gX_B_push C (pc := 64) hS (by omega) k_55 d_B_bendingAt_64 ?_
              refine r_ild4 C (pc := 67) d_B_bendingAt_67 ?_
              refine X_laldN C (pc := 69) hS (1) (by omega) (shB6 _) (by omega) (by omega) (by decide) d_B_bendingAt_69 ?_
              refine r_ild1 C (pc := 70) d_B_bendingAt_70 ?_
              refine r_ald0 C (pc := 71) d_B_bendingAt_71 ?_
              refine gX_B_place C (pc := 72) hS (by omega) k_44 d_B_bendingAt_72 ?_
              refine r_ild4 C (pc := 75) d_B_bendingAt_75 ?_
              refine X_ialdN C (pc := 77) hS (1) (by omega) (shB1 _) (by omega) (by omega) (by decide) d_B_bendingAt_77 ?_
              refine r_isub C (pc := 78) d_B_bendingAt_78 ?_
              refine r_i2l C (pc := 79) (by omega) d_B_bendingAt_79 ?_
              refine r_lmul C (pc := 80) d_B_bendingAt_80 ?_
              refine r_lsub C (pc := 81) d_B_bendingAt_81 ?_
              refine r_lst2 C (pc := 82) rfl d_B_bendingAt_82 ?_
              refine r_iinc4 C (pc := 83) rfl d_B_bendingAt_83 ?_
              refine r_goto C (pc := 86) (tgt := 45) d_B_bendingAt_86 (by decide) ?_
              refine r_ild4 C (pc := 45) d_B_bendingAt_45 ?_
              refine r_iconst C (pc := 47) d_B_bendingAt_47 ?_
              refine r_icmp_ge C (pc := 48) (tgt := 89) (by omega) (by omega) d_B_bendingAt_48 (by decide) (fun c48c => ?_) (fun c48c => ?_)
              · refine r_lld2 C (pc := 89) d_B_bendingAt_89 ?_
                exact r_lret C (pc := 90) hQ (⟨by unfold bdG; (first | rw [if_pos (show M.1 (45 + 7 * i + 1) 0 < (j : Int) by omega)] | rw [if_neg (show ¬ M.1 (45 + 7 * i + 1) 0 < (j : Int) by omega)]); (first | rw [if_pos (show M.1 (45 + 7 * i + 1) 1 < (j : Int) by omega)] | rw [if_neg (show ¬ M.1 (45 + 7 * i + 1) 1 < (j : Int) by omega)]); (try simp only [Int64.sub_zero]), rfl⟩) d_B_bendingAt_90
              · exact absurd c48c (by decide)
        · refine r_lld2 C (pc := 62) d_B_bendingAt_62 ?_
          refine r_ald0 C (pc := 63) d_B_bendingAt_63 ?_
          refine gX_B_push C (pc := 64) hS (by omega) k_55 d_B_bendingAt_64 ?_
          refine r_ild4 C (pc := 67) d_B_bendingAt_67 ?_
          refine X_laldN C (pc := 69) hS (0) (by omega) (shB6 _) (by omega) (by omega) (by decide) d_B_bendingAt_69 ?_
          refine r_ild1 C (pc := 70) d_B_bendingAt_70 ?_
          refine r_ald0 C (pc := 71) d_B_bendingAt_71 ?_
          refine gX_B_place C (pc := 72) hS (by omega) k_44 d_B_bendingAt_72 ?_
          refine r_ild4 C (pc := 75) d_B_bendingAt_75 ?_
          refine X_ialdN C (pc := 77) hS (0) (by omega) (shB1 _) (by omega) (by omega) (by decide) d_B_bendingAt_77 ?_
          refine r_isub C (pc := 78) d_B_bendingAt_78 ?_
          refine r_i2l C (pc := 79) (by omega) d_B_bendingAt_79 ?_
          refine r_lmul C (pc := 80) d_B_bendingAt_80 ?_
          refine r_lsub C (pc := 81) d_B_bendingAt_81 ?_
          refine r_lst2 C (pc := 82) rfl d_B_bendingAt_82 ?_
          refine r_iinc4 C (pc := 83) rfl d_B_bendingAt_83 ?_
          refine r_goto C (pc := 86) (tgt := 45) d_B_bendingAt_86 (by decide) ?_
          refine r_ild4 C (pc := 45) d_B_bendingAt_45 ?_
          refine r_iconst C (pc := 47) d_B_bendingAt_47 ?_
          refine r_icmp_ge C (pc := 48) (tgt := 89) (by omega) (by omega) d_B_bendingAt_48 (by decide) (fun c48b => ?_) (fun c48b => ?_)
          · exact absurd c48b (by decide)
          · refine r_ald0 C (pc := 51) d_B_bendingAt_51 ?_
            refine gX_B_place C (pc := 52) hS (by omega) k_44 d_B_bendingAt_52 ?_
            refine r_ild4 C (pc := 55) d_B_bendingAt_55 ?_
            refine X_ialdN C (pc := 57) hS (1) (by omega) (shB1 _) (by omega) (by omega) (by decide) d_B_bendingAt_57 ?_
            refine r_ild1 C (pc := 58) d_B_bendingAt_58 ?_
            refine r_icmp_ge C (pc := 59) (tgt := 83) (by omega) (by omega) d_B_bendingAt_59 (by decide) (fun c59b => ?_) (fun c59b => ?_)
            · refine r_iinc4 C (pc := 83) rfl d_B_bendingAt_83 ?_
              refine r_goto C (pc := 86) (tgt := 45) d_B_bendingAt_86 (by decide) ?_
              refine r_ild4 C (pc := 45) d_B_bendingAt_45 ?_
              refine r_iconst C (pc := 47) d_B_bendingAt_47 ?_
              refine r_icmp_ge C (pc := 48) (tgt := 89) (by omega) (by omega) d_B_bendingAt_48 (by decide) (fun c48c => ?_) (fun c48c => ?_)
              · refine r_lld2 C (pc := 89) d_B_bendingAt_89 ?_
                exact r_lret C (pc := 90) hQ (⟨by unfold bdG; (first | rw [if_pos (show M.1 (45 + 7 * i + 1) 0 < (j : Int) by omega)] | rw [if_neg (show ¬ M.1 (45 + 7 * i + 1) 0 < (j : Int) by omega)]); (first | rw [if_pos (show M.1 (45 + 7 * i + 1) 1 < (j : Int) by omega)] | rw [if_neg (show ¬ M.1 (45 + 7 * i + 1) 1 < (j : Int) by omega)]); (try simp only [Int64.sub_zero]), rfl⟩) d_B_bendingAt_90
              · exact absurd c48c (by decide)
            · refine r_lld2 C (pc := 62) d_B_bendingAt_62 ?_
              refine r_ald0 C (pc := 63) d_B_bendingAt_63 ?_
              refine gX_B_push C (pc := 64) hS (by omega) k_55 d_B_bendingAt_64 ?_
              refine r_ild4 C (pc := 67) d_B_bendingAt_67 ?_
              refine X_laldN C (pc := 69) hS (1) (by omega) (shB6 _) (by omega) (by omega) (by decide) d_B_bendingAt_69 ?_
              refine r_ild1 C (pc := 70) d_B_bendingAt_70 ?_
              refine r_ald0 C (pc := 71) d_B_bendingAt_71 ?_
              refine gX_B_place C (pc := 72) hS (by omega) k_44 d_B_bendingAt_72 ?_
              refine r_ild4 C (pc := 75) d_B_bendingAt_75 ?_
              refine X_ialdN C (pc := 77) hS (1) (by omega) (shB1 _) (by omega) (by omega) (by decide) d_B_bendingAt_77 ?_
              refine r_isub C (pc := 78) d_B_bendingAt_78 ?_
              refine r_i2l C (pc := 79) (by omega) d_B_bendingAt_79 ?_
              refine r_lmul C (pc := 80) d_B_bendingAt_80 ?_
              refine r_lsub C (pc := 81) d_B_bendingAt_81 ?_
              refine r_lst2 C (pc := 82) rfl d_B_bendingAt_82 ?_
              refine r_iinc4 C (pc := 83) rfl d_B_bendingAt_83 ?_
              refine r_goto C (pc := 86) (tgt := 45) d_B_bendingAt_86 (by decide) ?_
              refine r_ild4 C (pc := 45) d_B_bendingAt_45 ?_
              refine r_iconst C (pc := 47) d_B_bendingAt_47 ?_
              refine r_icmp_ge C (pc := 48) (tgt := 89) (by omega) (by omega) d_B_bendingAt_48 (by decide) (fun c48c => ?_) (fun c48c => ?_)
              · refine r_lld2 C (pc := 89) d_B_bendingAt_89 ?_
                exact r_lret C (pc := 90) hQ (⟨by unfold bdG; (first | rw [if_pos (show M.1 (45 + 7 * i + 1) 0 < (j : Int) by omega)] | rw [if_neg (show ¬ M.1 (45 + 7 * i + 1) 0 < (j : Int) by omega)]); (first | rw [if_pos (show M.1 (45 + 7 * i + 1) 1 < (j : Int) by omega)] | rw [if_neg (show ¬ M.1 (45 + 7 * i + 1) 1 < (j : Int) by omega)]); (try simp only [Int64.sub_zero]), rfl⟩) d_B_bendingAt_90
              · exact absurd c48c (by decide)
    · refine r_ild4 C (pc := 11) d_B_bendingAt_11 ?_
      refine r_ald0 C (pc := 13) d_B_bendingAt_13 ?_
      refine gX_B_length C (pc := 14) hS (by omega) k_35 d_B_bendingAt_14 ?_
      rw [hL]
      refine r_icmp_gt C (pc := 17) (tgt := 42) (by omega) (by omega) d_B_bendingAt_17 (by decide) (fun c17 => ?_) (fun c17 => ?_)
      · omega
      · refine r_lld2 C (pc := 20) d_B_bendingAt_20 ?_
        refine r_ald0 C (pc := 21) d_B_bendingAt_21 ?_
        refine gX_B_forces C (pc := 22) hS (by omega) k_53 d_B_bendingAt_22 ?_
        refine r_ild4 C (pc := 25) d_B_bendingAt_25 ?_
        refine X_laldN C (pc := 27) hS (j) (by omega) (shB5 _) (by omega) (by omega) (by decide) d_B_bendingAt_27 ?_
        refine r_ild1 C (pc := 28) d_B_bendingAt_28 ?_
        refine r_ild4 C (pc := 29) d_B_bendingAt_29 ?_
        refine r_isub C (pc := 31) d_B_bendingAt_31 ?_
        refine r_i2l C (pc := 32) (by omega) d_B_bendingAt_32 ?_
        refine r_lmul C (pc := 33) d_B_bendingAt_33 ?_
        refine r_ladd C (pc := 34) d_B_bendingAt_34 ?_
        refine r_lst2 C (pc := 35) rfl d_B_bendingAt_35 ?_
        refine r_iinc4 C (pc := 36) rfl d_B_bendingAt_36 ?_
        refine r_goto C (pc := 39) (tgt := 5) d_B_bendingAt_39 (by decide) ?_
        exact ih (j + 1) (by omega) (by omega)
set_option maxRecDepth 20000 in
theorem c_B_bendingAt (l : Launch) (E : zE) (M : zM) (i : Nat) (hi : i < 12) (L : Nat) (hL : M.1 (45 + 7 * i) 1 = (L : Int)) (hL6 : L ≤ 60) (h0 : 0 ≤ M.1 (45 + 7 * i + 1) 0 ∧ M.1 (45 + 7 * i + 1) 0 ≤ 60) (h1 : 0 ≤ M.1 (45 + 7 * i + 1) 1 ∧ M.1 (45 + 7 * i + 1) 1 ≤ 60) (x : Nat) (hx : x ≤ L) : zK l sX E y_B_bendingAt b_B_bendingAt 5 (some .long) 0 0 [.ref (E.2.2 (45 + 7 * i)), .int (iI (x : Int))] M (zPl (fun r M2 => r = (bdG (fun x => M.2 (45 + 7 * i + 5) x) (M.1 (45 + 7 * i + 1) 0) (M.1 (45 + 7 * i + 1) 1) (M.2 (45 + 7 * i + 6) 0) (M.2 (45 + 7 * i + 6) 1)) x ∧ M = M2)) := by
  refine zK.of "OldBeams$Beam" rfl (by decide) (Nat.le_of_ble_eq_true rfl) ?_
  intro G hS hE hQ hL C
  subst hE
  subst hL
  show VJ G M 0 [some (.ref (G.2.1.2.2 (45 + 7 * i))), some (.int (iI (x : Int))), none, none, none] []
  refine r_lconst C (pc := 0) (v := 0) rfl d_B_bendingAt_0 ?_
  refine r_lst2 C (pc := 1) rfl d_B_bendingAt_1 ?_
  refine r_iconst C (pc := 2) d_B_bendingAt_2 ?_
  refine r_ist4 C (pc := 3) rfl d_B_bendingAt_3 ?_
  exact l_B_bendingAt_5 C hS M i hi L hL hL6 h0 h1 x hx hQ (x + 1) 0 (by omega) (by omega)
