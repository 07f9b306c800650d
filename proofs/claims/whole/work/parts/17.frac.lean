-- Euclid's way: how many steps it takes, and what comparing by whole parts says
theorem eu_step {a b s : Nat} (hb : 0 < b) (hs : s = 0 ∨ b ≤ a) (h : a * b * 2 ^ (s - 1) < 2 ^ 126) : b * (a % b) * 2 ^ (s + 1 - 1) < 2 ^ 126 ∧ a % b ≤ b := by
  refine ⟨?_, Nat.le_of_lt (Nat.mod_lt a hb)⟩
  have e : s + 1 - 1 = s := by omega
  rw [e]
  rcases Nat.eq_zero_or_pos s with h0 | h0
  · subst h0
    have h1 : b * (a % b) ≤ b * a := Nat.mul_le_mul_left b (Nat.mod_le a b)
    rw [Nat.mul_comm b a] at h1
    have h2 : a * b * 2 ^ (0 - 1) = a * b := by simp
    have h3 : b * (a % b) * 2 ^ 0 = b * (a % b) := by simp
    omega
  · have hba : b ≤ a := by omega
    have h1 : 2 * (a % b) ≤ a := by
      have := Nat.mod_lt a hb
      have h2 := Nat.mod_add_div a b
      have h3 : b * 1 ≤ b * (a / b) := Nat.mul_le_mul_left b ((Nat.le_div_iff_mul_le hb).mpr (by omega))
      omega
    have h2 : b * (2 * (a % b)) ≤ b * a := Nat.mul_le_mul_left b h1
    have h3 : b * (a % b) * 2 ^ s = b * (2 * (a % b)) * 2 ^ (s - 1) := by
      obtain ⟨t, rfl⟩ : ∃ t, s = t + 1 := ⟨s - 1, by omega⟩
      rw [show t + 1 - 1 = t by omega, Nat.pow_succ]
      grind
    have h4 : b * (2 * (a % b)) * 2 ^ (s - 1) ≤ b * a * 2 ^ (s - 1) := Nat.mul_le_mul_right _ h2
    rw [Nat.mul_comm b a] at h4
    omega
theorem eu_end {a b : Nat} (hs : b ≤ a) (h : a * b * 2 ^ (200 - 1) < 2 ^ 126) : b = 0 := by
  rcases Nat.eq_zero_or_pos b with h0 | h0
  · exact h0
  · have h1 : 1 * 1 ≤ a * b := Nat.mul_le_mul (by omega) h0
    have h2 : 1 * 2 ^ (200 - 1) ≤ a * b * 2 ^ (200 - 1) := Nat.mul_le_mul_right _ (by omega)
    have h3 : (2 : Nat) ^ 126 < 1 * 2 ^ (200 - 1) := by decide
    omega
theorem eu_0 {a b : Nat} (ha : a < 2 ^ 63) (hb : b < 2 ^ 63) : a * b * 2 ^ (0 - 1) < 2 ^ 126 := by
  have h := Nat.mul_lt_mul'' ha hb
  have e : (2 : Nat) ^ 63 * 2 ^ 63 = 2 ^ 126 := by decide
  simp only [Nat.zero_sub, Nat.pow_zero, Nat.mul_one]
  omega
theorem gcd_step (a b : Nat) : Nat.gcd b (a % b) = Nat.gcd a b := by
  rw [Nat.gcd_comm a b, Nat.gcd_rec b a, Nat.gcd_comm]
theorem cf_lt {a b c d : Nat} (hb : 0 < b) (hd : 0 < d) (h : a / b < c / d) : a * d < c * b := by
  have h1 := Nat.mod_add_div a b
  have h2 := Nat.mod_lt a hb
  have h3 := Nat.mod_add_div c d
  have h4 : a < b * (a / b + 1) := by rw [Nat.mul_add]; omega
  have h5 : b * (a / b + 1) ≤ b * (c / d) := Nat.mul_le_mul_left b h
  have h6 : a * d < b * (c / d) * d := Nat.mul_lt_mul_of_pos_right (by omega) hd
  have h7 : d * (c / d) ≤ c := by omega
  have h8 : d * (c / d) * b ≤ c * b := Nat.mul_le_mul_right b h7
  have h9 : b * (c / d) * d = d * (c / d) * b := by grind
  omega
theorem cf_ne {a b c d : Nat} (hb : 0 < b) (hd : 0 < d) (h : ¬ a / b = c / d) : a * d < c * b ↔ a / b < c / d := by
  constructor
  · intro q
    rcases Nat.lt_or_ge (a / b) (c / d) with z | z
    · exact z
    · have := cf_lt (a := c) (b := d) (c := a) (d := b) hd hb (by omega)
      omega
  · exact cf_lt hb hd
theorem cf_eq {a b c d : Nat} (h : a / b = c / d) : a * d < c * b ↔ a % b * d < c % d * b := by
  have h1 := Nat.mod_add_div a b
  have h3 := Nat.mod_add_div c d
  have e1 : a * d = a % b * d + b * (a / b) * d := by rw [← Nat.add_mul, h1]
  have e2 : c * b = c % d * b + d * (c / d) * b := by rw [← Nat.add_mul, h3]
  have e3 : b * (a / b) * d = d * (c / d) * b := by rw [h]; grind
  omega
theorem lN_0 : lN 0 = 0 := rfl
theorem div_63 {a : Nat} (b : Nat) (h : a < 2 ^ 63) : a / b < 2 ^ 63 := Nat.lt_of_le_of_lt (Nat.div_le_self a b) h
theorem mod_63 {b : Nat} (a : Nat) (hb : 0 < b) (h : b < 2 ^ 63) : a % b < 2 ^ 63 := Nat.lt_trans (Nat.mod_lt a hb) h
theorem lN_ne {b : Nat} (hb : 0 < b) (h : b < 2 ^ 63) : ¬ lN b = 0 := by
  rw [← lN_0, pk_lEQ h (by decide)]
  omega
set_option maxRecDepth 20000 in
theorem l_Q_common_9 {G : zG} (C : zC G b_Q_common "OldBeams$Fraction" (some .long) 11 0 0) (hS : G.1 = sX) (M : zM) (a0 b0 : Nat) (hQ : G.2.2.1 = zPl (fun r M2 => r = lN (Nat.gcd a0 b0) ∧ M = M2)) : ∀ (n : Nat) (a b s : Nat), (a < 2 ^ 63) → (b < 2 ^ 63) → (s ≤ 200) → (s = 0 ∨ b ≤ a) → (a * b * 2 ^ (s - 1) < 2 ^ 126) → (Nat.gcd a b = Nat.gcd a0 b0) → (200 - s < n) → VJ G M 9 [some (.long (lN a0)), none, some (.long (lN b0)), none, some (.long (lN a)), none, some (.long (lN b)), none, some (.int (iI (s : Int))), none, none] [] := by
  intro n
  induction n with
  | zero =>
    intro a b s ha hb hs ho hf hg hn
    exact absurd hn (by omega)
  | succ n ih =>
    intro a b s ha hb hs ho hf hg hn
    refine r_ild8 C (pc := 9) d_Q_common_9 ?_
    refine r_sipush C (pc := 11) (n := 200) rfl d_Q_common_11 ?_
    refine r_icmp_ge C (pc := 14) (tgt := 45) (by omega) (by omega) d_Q_common_14 (by decide) (fun c14 => ?_) (fun c14 => ?_)
    · have hb1 : b = 0 := by
        have e : s = 200 := by omega
        subst e
        exact eu_end (by omega) hf
      refine r_lld4 C (pc := 45) d_Q_common_45 ?_
      exact r_lret C (pc := 47) hQ (⟨by rw [← hg, hb1, Nat.gcd_zero_right], rfl⟩) d_Q_common_47
    · refine r_lld6 C (pc := 17) d_Q_common_17 ?_
      refine r_lconst C (pc := 19) (v := 0) rfl d_Q_common_19 ?_
      refine r_lcmp_eq C (pc := 20) (tgt := 45) d_Q_common_20 d_Q_common_21 (by decide) (fun c20 => ?_) (fun c20 => ?_)
      · have hb1 : b = 0 := (pk_lEQ hb (by decide)).mp (c20.trans lN_0.symm)
        refine r_lld4 C (pc := 45) d_Q_common_45 ?_
        exact r_lret C (pc := 47) hQ (⟨by rw [← hg, hb1, Nat.gcd_zero_right], rfl⟩) d_Q_common_47
      · have hb0 : 0 < b := by
          rcases Nat.eq_zero_or_pos b with q | q
          · exact absurd (by rw [q]; rfl) c20
          · exact q
        obtain ⟨hf2, ho2⟩ := eu_step hb0 ho hf
        refine r_lld4 C (pc := 24) d_Q_common_24 ?_
        refine r_lld6 C (pc := 26) d_Q_common_26 ?_
        refine r_lrem C (pc := 28) (lN_ne hb0 hb) d_Q_common_28 ?_
        refine r_topl (pk_lRem ha hb0 hb) ?_
        refine r_lst9 C (pc := 29) rfl d_Q_common_29 ?_
        refine r_lld6 C (pc := 31) d_Q_common_31 ?_
        refine r_lst4 C (pc := 33) rfl d_Q_common_33 ?_
        refine r_lld9 C (pc := 35) d_Q_common_35 ?_
        refine r_lst6 C (pc := 37) rfl d_Q_common_37 ?_
        refine r_iinc8 C (pc := 39) rfl d_Q_common_39 ?_
        refine r_goto C (pc := 42) (tgt := 9) d_Q_common_42 (by decide) ?_
        refine r_weak ?_ (ih b (a % b) (s + 1) hb (mod_63 a hb0 hb) (by omega) (Or.inr ho2) hf2 ((gcd_step a b).trans hg) (by omega))
        exact ⟨Or.inr rfl, Or.inr rfl, Or.inr rfl, Or.inr rfl, Or.inr rfl, Or.inr rfl, Or.inr rfl, Or.inr rfl, Or.inr rfl, Or.inl rfl, Or.inl rfl, trivial⟩
set_option maxRecDepth 20000 in
theorem c_Q_common (l : Launch) (E : zE) (M : zM) (a0 b0 : Nat) (ha : a0 < 2 ^ 63) (hb : b0 < 2 ^ 63) : zK l sX E y_Q_common b_Q_common 11 (some .long) 0 0 [.long (lN a0), .long (lN b0)] M (zPl (fun r M2 => r = lN (Nat.gcd a0 b0) ∧ M = M2)) := by
  refine zK.of "OldBeams$Fraction" rfl (by decide) (Nat.le_of_ble_eq_true rfl) ?_
  intro G hS hE hQ hL C
  subst hE
  subst hL
  show VJ G M 0 [some (.long (lN a0)), none, some (.long (lN b0)), none, none, none, none, none, none, none, none] []
  refine r_lld0 C (pc := 0) d_Q_common_0 ?_
  refine r_lst4 C (pc := 1) rfl d_Q_common_1 ?_
  refine r_lld2 C (pc := 3) d_Q_common_3 ?_
  refine r_lst6 C (pc := 4) rfl d_Q_common_4 ?_
  refine r_iconst C (pc := 6) d_Q_common_6 ?_
  refine r_ist8 C (pc := 7) rfl d_Q_common_7 ?_
  exact l_Q_common_9 C hS M a0 b0 hQ 201 a0 b0 0 ha hb (by omega) (Or.inl rfl) (eu_0 ha hb) rfl (by omega)
set_option maxRecDepth 20000 in
theorem c_Q_put (l : Launch) (E : zE) (M : zM) (k : Nat) (hk : k = 3 ∨ k = 4) (a b : Nat) (ha : a < 2 ^ 63) (hb : b < 2 ^ 63) (hb0 : 0 < b) : zK l sX E y_Q_put b_Q_put 7 none 1 30 [.ref (E.2.2 k), .long (lN a), .long (lN b)] M (zPv (fun M2 => zJ (zJ M k 0 (lN (a / Nat.gcd a b))) k 1 (lN (b / Nat.gcd a b)) = M2)) := by
  refine zK.of "OldBeams$Fraction" rfl (by decide) (Nat.le_of_ble_eq_true rfl) ?_
  intro G hS hE hQ hL C
  subst hE
  subst hL
  show VJ G M 0 [some (.ref (G.2.1.2.2 k)), some (.long (lN a)), none, some (.long (lN b)), none, none, none] []
  refine r_lld1 C (pc := 0) d_Q_put_0 ?_
  refine r_lld3 C (pc := 1) d_Q_put_1 ?_
  refine call_Q_common C (pc := 2) hS (c_Q_common _ _ _ _ _ (by assumption) (by assumption)) k_526 (by decide) (Nat.le_of_ble_eq_true rfl) rfl d_Q_put_2 (kkL (fun r2 N2 h2 => ?_))
  obtain ⟨rfl, rfl⟩ := h2
  refine r_lst5 C (pc := 5) rfl d_Q_put_5 ?_
  have hg0 : 0 < Nat.gcd a b := Nat.gcd_pos_of_pos_right a hb0
  have hg : Nat.gcd a b < 2 ^ 63 := Nat.lt_of_le_of_lt (Nat.gcd_le_right a hb0) hb
  refine r_ald0 C (pc := 7) d_Q_put_7 ?_
  refine r_lld5 C (pc := 8) d_Q_put_8 ?_
  refine r_lconst C (pc := 10) (v := 0) rfl d_Q_put_10 ?_
  refine r_lcmp_ne C (pc := 11) (tgt := 19) d_Q_put_11 d_Q_put_12 (by decide) (fun c11 => ?_) (fun c11 => ?_)
  · refine r_lld1 C (pc := 19) d_Q_put_19 ?_
    refine r_lld5 C (pc := 20) d_Q_put_20 ?_
    refine r_ldiv C (pc := 22) (lN_ne hg0 hg) d_Q_put_22 ?_
    refine r_topl (pk_lDiv ha hg0 hg) ?_
    refine pX_Q_above C (pc := 23) hS hk k_194 d_Q_put_23 ?_
    refine r_ald0 C (pc := 26) d_Q_put_26 ?_
    refine r_lld5 C (pc := 27) d_Q_put_27 ?_
    refine r_lconst C (pc := 29) (v := 0) rfl d_Q_put_29 ?_
    refine r_lcmp_ne C (pc := 30) (tgt := 38) d_Q_put_30 d_Q_put_31 (by decide) (fun c30 => ?_) (fun c30 => ?_)
    · refine r_lld3 C (pc := 38) d_Q_put_38 ?_
      refine r_lld5 C (pc := 39) d_Q_put_39 ?_
      refine r_ldiv C (pc := 41) (lN_ne hg0 hg) d_Q_put_41 ?_
      refine r_topl (pk_lDiv hb hg0 hg) ?_
      refine pX_Q_below C (pc := 42) hS hk k_195 d_Q_put_42 ?_
      exact r_vret C (pc := 45) hQ (rfl) d_Q_put_45
    · exact absurd c30 (lN_ne hg0 hg)
  · exact absurd c11 (lN_ne hg0 hg)
set_option maxRecDepth 20000 in
theorem c_Q_copy (l : Launch) (E : zE) (M : zM) (hk : (3 : Nat) = 3 ∨ (3 : Nat) = 4) (hk2 : (4 : Nat) = 3 ∨ (4 : Nat) = 4) : zK l sX E y_Q_copy b_Q_copy 2 none 0 0 [.ref (E.2.2 4), .ref (E.2.2 3)] M (zPv (fun M2 => zJ (zJ M 4 0 (M.2 3 0)) 4 1 (M.2 3 1) = M2)) := by
  refine zK.of "OldBeams$Fraction" rfl (by decide) (Nat.le_of_ble_eq_true rfl) ?_
  intro G hS hE hQ hL C
  subst hE
  subst hL
  show VJ G M 0 [some (.ref (G.2.1.2.2 4)), some (.ref (G.2.1.2.2 3))] []
  refine r_ald0 C (pc := 0) d_Q_copy_0 ?_
  refine r_ald1 C (pc := 1) d_Q_copy_1 ?_
  refine gX_Q_above C (pc := 2) hS hk k_194 d_Q_copy_2 ?_
  refine pX_Q_above C (pc := 5) hS hk2 k_194 d_Q_copy_5 ?_
  refine r_ald0 C (pc := 8) d_Q_copy_8 ?_
  refine r_ald1 C (pc := 9) d_Q_copy_9 ?_
  refine gX_Q_below C (pc := 10) hS hk k_195 d_Q_copy_10 ?_
  rw [zJ_ne (by decide)]
  refine pX_Q_below C (pc := 13) hS hk2 k_195 d_Q_copy_13 ?_
  exact r_vret C (pc := 16) hQ (rfl) d_Q_copy_16
set_option maxRecDepth 20000 in
theorem c_Q_part (l : Launch) (E : zE) (M : zM) (k : Nat) (hk : k = 3 ∨ k = 4) (z : Int) (hz : z = 0 ∨ z = 1) : zK l sX E y_Q_part b_Q_part 2 (some .long) 0 0 [.ref (E.2.2 k), .int (iI z)] M (zPl (fun r M2 => r = (if z = 0 then M.2 k 1 else M.2 k 0) ∧ M = M2)) := by
  refine zK.of "OldBeams$Fraction" rfl (by decide) (Nat.le_of_ble_eq_true rfl) ?_
  intro G hS hE hQ hL C
  subst hE
  subst hL
  show VJ G M 0 [some (.ref (G.2.1.2.2 k)), some (.int (iI z))] []
  refine r_ild1 C (pc := 0) d_Q_part_0 ?_
  refine r_if_eq C (pc := 1) (tgt := 11) (by omega) d_Q_part_1 (by decide) (fun c1 => ?_) (fun c1 => ?_)
  · refine r_ald0 C (pc := 11) d_Q_part_11 ?_
    refine gX_Q_below C (pc := 12) hS hk k_195 d_Q_part_12 ?_
    exact r_lret C (pc := 15) hQ (⟨by first | rw [if_pos c1] | rw [if_neg c1], rfl⟩) d_Q_part_15
  · refine r_ald0 C (pc := 4) d_Q_part_4 ?_
    refine gX_Q_above C (pc := 5) hS hk k_194 d_Q_part_5 ?_
    refine r_goto C (pc := 8) (tgt := 15) d_Q_part_8 (by decide) ?_
    exact r_lret C (pc := 15) hQ (⟨by first | rw [if_pos c1] | rw [if_neg c1], rfl⟩) d_Q_part_15
theorem cf_r0 {r b r2 d : Nat} (hb : 0 < b) (_ : 0 < d) (h : r = 0 ∨ r2 = 0) (h2 : r < r2) : r * d < r2 * b := by
  have : r = 0 := by omega
  subst this
  rw [Nat.zero_mul]
  exact Nat.mul_pos h2 hb
theorem cf_r1 {r b r2 d : Nat} (h : r * d < r2 * b) (h2 : r = 0 ∨ r2 = 0) : r < r2 := by
  rcases Nat.eq_zero_or_pos r2 with q | q
  · subst q
    rw [Nat.zero_mul] at h
    omega
  · omega
set_option maxRecDepth 20000 in
theorem l_Q_isLessThan_26 {G : zG} (C : zC G b_Q_isLessThan "OldBeams$Fraction" (some .boolean) 16 0 0) (hS : G.1 = sX) (M : zM) (k k2 : Nat) (a0 b0 c0 d0 : Nat) (hQ : G.2.2.1 = zPi (fun r M2 => r = zb (a0 * d0 < c0 * b0) ∧ M = M2)) : ∀ (n : Nat) (a b c d s : Nat), (a < 2 ^ 63) → (b < 2 ^ 63) → (c < 2 ^ 63) → (d < 2 ^ 63) → (0 < b) → (0 < d) → (s ≤ 200) → (s = 0 ∨ b ≤ a) → (a * b * 2 ^ (s - 1) < 2 ^ 126) → (a0 * d0 < c0 * b0 ↔ (if s % 2 = 0 then a * d < c * b else c * b < a * d)) → (200 - s < n) → VJ G M 26 [some (.ref (zad G k)), some (.ref (zad G k2)), some (.long (lN a)), none, some (.long (lN b)), none, some (.long (lN c)), none, some (.long (lN d)), none, some (.int (iI (s : Int))), none, none, none, none, none] [] := by
  intro n
  induction n with
  | zero =>
    intro a b c d s ha hb hc hd hb0 hd0 hs ho hf heq hn
    exact absurd hn (by omega)
  | succ n ih =>
    intro a b c d s ha hb hc hd hb0 hd0 hs ho hf heq hn
    refine r_ild10 C (pc := 26) d_Q_isLessThan_26 ?_
    refine r_sipush C (pc := 28) (n := 200) rfl d_Q_isLessThan_28 ?_
    refine r_icmp_ge C (pc := 31) (tgt := 204) (by omega) (by omega) d_Q_isLessThan_31 (by decide) (fun c31 => ?_) (fun c31 => ?_)
    · have e : s = 200 := by omega
      subst e
      exact absurd (eu_end (by omega) hf) (by omega)
    · refine r_lld4 C (pc := 34) d_Q_isLessThan_34 ?_
      refine r_lconst C (pc := 36) (v := 0) rfl d_Q_isLessThan_36 ?_
      refine r_lcmp_le C (pc := 37) (tgt := 204) d_Q_isLessThan_37 d_Q_isLessThan_38 (by decide) (fun c37 => ?_) (fun c37 => ?_)
      · exact absurd ((pk_lLE (b := 0) hb (by decide)).mp c37) (by omega)
      · refine r_lld8 C (pc := 41) d_Q_isLessThan_41 ?_
        refine r_lconst C (pc := 43) (v := 0) rfl d_Q_isLessThan_43 ?_
        refine r_lcmp_le C (pc := 44) (tgt := 204) d_Q_isLessThan_44 d_Q_isLessThan_45 (by decide) (fun c44 => ?_) (fun c44 => ?_)
        · exact absurd ((pk_lLE (b := 0) hd (by decide)).mp c44) (by omega)
        · refine r_ild10 C (pc := 48) d_Q_isLessThan_48 ?_
          refine r_iconst C (pc := 50) d_Q_isLessThan_50 ?_
          refine r_irem C (pc := 51) (by omega) (by omega) d_Q_isLessThan_51 ?_
          refine r_iconst C (pc := 52) d_Q_isLessThan_52 ?_
          refine r_icmp_ne C (pc := 53) (tgt := 60) (by omega) (by omega) d_Q_isLessThan_53 (by decide) (fun c53 => ?_) (fun c53 => ?_)
          · rw [if_pos (by omega)] at heq
            refine r_iconst C (pc := 60) d_Q_isLessThan_60 ?_
            refine r_ist11 C (pc := 61) rfl d_Q_isLessThan_61 ?_
            refine r_lld2 C (pc := 63) d_Q_isLessThan_63 ?_
            refine r_lld4 C (pc := 64) d_Q_isLessThan_64 ?_
            refine r_ldiv C (pc := 66) (lN_ne hb0 hb) d_Q_isLessThan_66 ?_
            refine r_topl (pk_lDiv ha hb0 hb) ?_
            refine r_lld6 C (pc := 67) d_Q_isLessThan_67 ?_
            refine r_lld8 C (pc := 69) d_Q_isLessThan_69 ?_
            refine r_ldiv C (pc := 71) (lN_ne hd0 hd) d_Q_isLessThan_71 ?_
            refine r_topl (pk_lDiv hc hd0 hd) ?_
            refine r_lcmp_eq C (pc := 72) (tgt := 121) d_Q_isLessThan_72 d_Q_isLessThan_73 (by decide) (fun c72 => ?_) (fun c72 => ?_)
            · have hq : a / b = c / d := (pk_lEQ (div_63 b ha) (div_63 d hc)).mp c72
              have hI := cf_eq hq
              have hJ := cf_eq hq.symm
              obtain ⟨hf2, ho2⟩ := eu_step hb0 ho hf
              refine r_lld2 C (pc := 121) d_Q_isLessThan_121 ?_
              refine r_lld4 C (pc := 122) d_Q_isLessThan_122 ?_
              refine r_lrem C (pc := 124) (lN_ne hb0 hb) d_Q_isLessThan_124 ?_
              refine r_topl (pk_lRem ha hb0 hb) ?_
              refine r_lst12 C (pc := 125) rfl d_Q_isLessThan_125 ?_
              refine r_lld6 C (pc := 127) d_Q_isLessThan_127 ?_
              refine r_lld8 C (pc := 129) d_Q_isLessThan_129 ?_
              refine r_lrem C (pc := 131) (lN_ne hd0 hd) d_Q_isLessThan_131 ?_
              refine r_topl (pk_lRem hc hd0 hd) ?_
              refine r_lst14 C (pc := 132) rfl d_Q_isLessThan_132 ?_
              refine r_lld12 C (pc := 134) d_Q_isLessThan_134 ?_
              refine r_lconst C (pc := 136) (v := 0) rfl d_Q_isLessThan_136 ?_
              refine r_lcmp_eq C (pc := 137) (tgt := 148) d_Q_isLessThan_137 d_Q_isLessThan_138 (by decide) (fun c137 => ?_) (fun c137 => ?_)
              · have hr : a % b = 0 := (pk_lEQ (mod_63 a hb0 hb) (by decide)).mp (c137.trans lN_0.symm)
                refine r_ild11 C (pc := 148) d_Q_isLessThan_148 ?_
                refine r_if_eq C (pc := 150) (tgt := 169) (by omega) d_Q_isLessThan_150 (by decide) (fun c150 => ?_) (fun c150 => ?_)
                · refine r_lld12 C (pc := 169) d_Q_isLessThan_169 ?_
                  refine r_lld14 C (pc := 171) d_Q_isLessThan_171 ?_
                  refine r_lcmp_ge C (pc := 173) (tgt := 181) d_Q_isLessThan_173 d_Q_isLessThan_174 (by decide) (fun c173 => ?_) (fun c173 => ?_)
                  · rw [pk_lLE (a := c % d) (b := a % b) (mod_63 c hd0 hd) (mod_63 a hb0 hb)] at c173
                    refine r_iconst C (pc := 181) d_Q_isLessThan_181 ?_
                    exact r_zret C (pc := 182) hQ (by first | exact Or.inl rfl | exact Or.inr rfl | exact zb_01 _ | assumption) (⟨by first | exact zb_of1 (heq.mpr (hI.mpr (cf_r0 hb0 hd0 (by omega) (by omega)))) | exact zb_of0 (fun q => by have := cf_r1 (hI.mp (heq.mp q)) (by omega); omega) | exact zb_of1 (heq.mpr (hJ.mpr (cf_r0 hd0 hb0 (by omega) (by omega)))) | exact zb_of0 (fun q => by have := cf_r1 (hJ.mp (heq.mp q)) (by omega); omega), rfl⟩) d_Q_isLessThan_182
                  · rw [pk_lLE (a := c % d) (b := a % b) (mod_63 c hd0 hd) (mod_63 a hb0 hb)] at c173
                    refine r_iconst C (pc := 177) d_Q_isLessThan_177 ?_
                    refine r_goto C (pc := 178) (tgt := 182) d_Q_isLessThan_178 (by decide) ?_
                    exact r_zret C (pc := 182) hQ (by first | exact Or.inl rfl | exact Or.inr rfl | exact zb_01 _ | assumption) (⟨by first | exact zb_of1 (heq.mpr (hI.mpr (cf_r0 hb0 hd0 (by omega) (by omega)))) | exact zb_of0 (fun q => by have := cf_r1 (hI.mp (heq.mp q)) (by omega); omega) | exact zb_of1 (heq.mpr (hJ.mpr (cf_r0 hd0 hb0 (by omega) (by omega)))) | exact zb_of0 (fun q => by have := cf_r1 (hJ.mp (heq.mp q)) (by omega); omega), rfl⟩) d_Q_isLessThan_182
                · exact absurd c150 (by decide)
              · have hr : ¬ a % b = 0 := fun q => c137 (by rw [q]; rfl)
                refine r_lld14 C (pc := 141) d_Q_isLessThan_141 ?_
                refine r_lconst C (pc := 143) (v := 0) rfl d_Q_isLessThan_143 ?_
                refine r_lcmp_ne C (pc := 144) (tgt := 183) d_Q_isLessThan_144 d_Q_isLessThan_145 (by decide) (fun c144 => ?_) (fun c144 => ?_)
                · have hr2 : ¬ c % d = 0 := fun q => c144 (by rw [q]; rfl)
                  refine r_lld4 C (pc := 183) d_Q_isLessThan_183 ?_
                  refine r_lst2 C (pc := 185) rfl d_Q_isLessThan_185 ?_
                  refine r_lld12 C (pc := 186) d_Q_isLessThan_186 ?_
                  refine r_lst4 C (pc := 188) rfl d_Q_isLessThan_188 ?_
                  refine r_lld8 C (pc := 190) d_Q_isLessThan_190 ?_
                  refine r_lst6 C (pc := 192) rfl d_Q_isLessThan_192 ?_
                  refine r_lld14 C (pc := 194) d_Q_isLessThan_194 ?_
                  refine r_lst8 C (pc := 196) rfl d_Q_isLessThan_196 ?_
                  refine r_iinc10 C (pc := 198) rfl d_Q_isLessThan_198 ?_
                  refine r_goto C (pc := 201) (tgt := 26) d_Q_isLessThan_201 (by decide) ?_
                  refine r_weak ?_ (ih b (a % b) d (c % d) (s + 1) hb (mod_63 a hb0 hb) hd (mod_63 c hd0 hd) (by omega) (by omega) (by omega) (Or.inr ho2) hf2 (by first | (rw [if_neg (show ¬ (s + 1) % 2 = 0 by omega), heq, hI, Nat.mul_comm (a % b) d, Nat.mul_comm (c % d) b]) | (rw [if_pos (show (s + 1) % 2 = 0 by omega), heq, hJ, Nat.mul_comm (c % d) b, Nat.mul_comm (a % b) d])) (by omega))
                  exact ⟨Or.inr rfl, Or.inr rfl, Or.inr rfl, Or.inr rfl, Or.inr rfl, Or.inr rfl, Or.inr rfl, Or.inr rfl, Or.inr rfl, Or.inr rfl, Or.inr rfl, Or.inl rfl, Or.inl rfl, Or.inl rfl, Or.inl rfl, Or.inl rfl, trivial⟩
                · have hr2 : c % d = 0 := (pk_lEQ (mod_63 c hd0 hd) (by decide)).mp (c144.trans lN_0.symm)
                  refine r_ild11 C (pc := 148) d_Q_isLessThan_148 ?_
                  refine r_if_eq C (pc := 150) (tgt := 169) (by omega) d_Q_isLessThan_150 (by decide) (fun c150 => ?_) (fun c150 => ?_)
                  · refine r_lld12 C (pc := 169) d_Q_isLessThan_169 ?_
                    refine r_lld14 C (pc := 171) d_Q_isLessThan_171 ?_
                    refine r_lcmp_ge C (pc := 173) (tgt := 181) d_Q_isLessThan_173 d_Q_isLessThan_174 (by decide) (fun c173 => ?_) (fun c173 => ?_)
                    · rw [pk_lLE (a := c % d) (b := a % b) (mod_63 c hd0 hd) (mod_63 a hb0 hb)] at c173
                      refine r_iconst C (pc := 181) d_Q_isLessThan_181 ?_
                      exact r_zret C (pc := 182) hQ (by first | exact Or.inl rfl | exact Or.inr rfl | exact zb_01 _ | assumption) (⟨by first | exact zb_of1 (heq.mpr (hI.mpr (cf_r0 hb0 hd0 (by omega) (by omega)))) | exact zb_of0 (fun q => by have := cf_r1 (hI.mp (heq.mp q)) (by omega); omega) | exact zb_of1 (heq.mpr (hJ.mpr (cf_r0 hd0 hb0 (by omega) (by omega)))) | exact zb_of0 (fun q => by have := cf_r1 (hJ.mp (heq.mp q)) (by omega); omega), rfl⟩) d_Q_isLessThan_182
                    · rw [pk_lLE (a := c % d) (b := a % b) (mod_63 c hd0 hd) (mod_63 a hb0 hb)] at c173
                      refine r_iconst C (pc := 177) d_Q_isLessThan_177 ?_
                      refine r_goto C (pc := 178) (tgt := 182) d_Q_isLessThan_178 (by decide) ?_
                      exact r_zret C (pc := 182) hQ (by first | exact Or.inl rfl | exact Or.inr rfl | exact zb_01 _ | assumption) (⟨by first | exact zb_of1 (heq.mpr (hI.mpr (cf_r0 hb0 hd0 (by omega) (by omega)))) | exact zb_of0 (fun q => by have := cf_r1 (hI.mp (heq.mp q)) (by omega); omega) | exact zb_of1 (heq.mpr (hJ.mpr (cf_r0 hd0 hb0 (by omega) (by omega)))) | exact zb_of0 (fun q => by have := cf_r1 (hJ.mp (heq.mp q)) (by omega); omega), rfl⟩) d_Q_isLessThan_182
                  · exact absurd c150 (by decide)
            · have hq : ¬ a / b = c / d := fun q => c72 (by rw [q])
              have hI := cf_ne hb0 hd0 hq
              have hJ := cf_ne hd0 hb0 (Ne.symm hq)
              refine r_ild11 C (pc := 76) d_Q_isLessThan_76 ?_
              refine r_if_eq C (pc := 78) (tgt := 102) (by omega) d_Q_isLessThan_78 (by decide) (fun c78 => ?_) (fun c78 => ?_)
              · refine r_lld2 C (pc := 102) d_Q_isLessThan_102 ?_
                refine r_lld4 C (pc := 103) d_Q_isLessThan_103 ?_
                refine r_ldiv C (pc := 105) (lN_ne hb0 hb) d_Q_isLessThan_105 ?_
                refine r_topl (pk_lDiv ha hb0 hb) ?_
                refine r_lld6 C (pc := 106) d_Q_isLessThan_106 ?_
                refine r_lld8 C (pc := 108) d_Q_isLessThan_108 ?_
                refine r_ldiv C (pc := 110) (lN_ne hd0 hd) d_Q_isLessThan_110 ?_
                refine r_topl (pk_lDiv hc hd0 hd) ?_
                refine r_lcmp_ge C (pc := 111) (tgt := 119) d_Q_isLessThan_111 d_Q_isLessThan_112 (by decide) (fun c111 => ?_) (fun c111 => ?_)
                · rw [pk_lLE (a := c / d) (b := a / b) (div_63 d hc) (div_63 b ha)] at c111
                  refine r_iconst C (pc := 119) d_Q_isLessThan_119 ?_
                  exact r_zret C (pc := 120) hQ (by first | exact Or.inl rfl | exact Or.inr rfl | exact zb_01 _ | assumption) (⟨by first | exact zb_of1 (heq.mpr (hI.mpr (by omega))) | exact zb_of0 (fun q => by have := hI.mp (heq.mp q); omega) | exact zb_of1 (heq.mpr (hJ.mpr (by omega))) | exact zb_of0 (fun q => by have := hJ.mp (heq.mp q); omega), rfl⟩) d_Q_isLessThan_120
                · rw [pk_lLE (a := c / d) (b := a / b) (div_63 d hc) (div_63 b ha)] at c111
                  refine r_iconst C (pc := 115) d_Q_isLessThan_115 ?_
                  refine r_goto C (pc := 116) (tgt := 120) d_Q_isLessThan_116 (by decide) ?_
                  exact r_zret C (pc := 120) hQ (by first | exact Or.inl rfl | exact Or.inr rfl | exact zb_01 _ | assumption) (⟨by first | exact zb_of1 (heq.mpr (hI.mpr (by omega))) | exact zb_of0 (fun q => by have := hI.mp (heq.mp q); omega) | exact zb_of1 (heq.mpr (hJ.mpr (by omega))) | exact zb_of0 (fun q => by have := hJ.mp (heq.mp q); omega), rfl⟩) d_Q_isLessThan_120
              · exact absurd c78 (by decide)
          · rw [if_neg (by omega)] at heq
            refine r_iconst C (pc := 56) d_Q_isLessThan_56 ?_
            refine r_goto C (pc := 57) (tgt := 61) d_Q_isLessThan_57 (by decide) ?_
            refine r_ist11 C (pc := 61) rfl d_Q_isLessThan_61 ?_
            refine r_lld2 C (pc := 63) d_Q_isLessThan_63 ?_
            refine r_lld4 C (pc := 64) d_Q_isLessThan_64 ?_
            refine r_ldiv C (pc := 66) (lN_ne hb0 hb) d_Q_isLessThan_66 ?_
            refine r_topl (pk_lDiv ha hb0 hb) ?_
            refine r_lld6 C (pc := 67) d_Q_isLessThan_67 ?_
            refine r_lld8 C (pc := 69) d_Q_isLessThan_69 ?_
            refine r_ldiv C (pc := 71) (lN_ne hd0 hd) d_Q_isLessThan_71 ?_
            refine r_topl (pk_lDiv hc hd0 hd) ?_
            refine r_lcmp_eq C (pc := 72) (tgt := 121) d_Q_isLessThan_72 d_Q_isLessThan_73 (by decide) (fun c72 => ?_) (fun c72 => ?_)
            · have hq : a / b = c / d := (pk_lEQ (div_63 b ha) (div_63 d hc)).mp c72
              have hI := cf_eq hq
              have hJ := cf_eq hq.symm
              obtain ⟨hf2, ho2⟩ := eu_step hb0 ho hf
              refine r_lld2 C (pc := 121) d_Q_isLessThan_121 ?_
              refine r_lld4 C (pc := 122) d_Q_isLessThan_122 ?_
              refine r_lrem C (pc := 124) (lN_ne hb0 hb) d_Q_isLessThan_124 ?_
              refine r_topl (pk_lRem ha hb0 hb) ?_
              refine r_lst12 C (pc := 125) rfl d_Q_isLessThan_125 ?_
              refine r_lld6 C (pc := 127) d_Q_isLessThan_127 ?_
              refine r_lld8 C (pc := 129) d_Q_isLessThan_129 ?_
              refine r_lrem C (pc := 131) (lN_ne hd0 hd) d_Q_isLessThan_131 ?_
              refine r_topl (pk_lRem hc hd0 hd) ?_
              refine r_lst14 C (pc := 132) rfl d_Q_isLessThan_132 ?_
              refine r_lld12 C (pc := 134) d_Q_isLessThan_134 ?_
              refine r_lconst C (pc := 136) (v := 0) rfl d_Q_isLessThan_136 ?_
              refine r_lcmp_eq C (pc := 137) (tgt := 148) d_Q_isLessThan_137 d_Q_isLessThan_138 (by decide) (fun c137 => ?_) (fun c137 => ?_)
              · have hr : a % b = 0 := (pk_lEQ (mod_63 a hb0 hb) (by decide)).mp (c137.trans lN_0.symm)
                refine r_ild11 C (pc := 148) d_Q_isLessThan_148 ?_
                refine r_if_eq C (pc := 150) (tgt := 169) (by omega) d_Q_isLessThan_150 (by decide) (fun c150 => ?_) (fun c150 => ?_)
                · exact absurd c150 (by decide)
                · refine r_lld12 C (pc := 153) d_Q_isLessThan_153 ?_
                  refine r_lld14 C (pc := 155) d_Q_isLessThan_155 ?_
                  refine r_lcmp_le C (pc := 157) (tgt := 165) d_Q_isLessThan_157 d_Q_isLessThan_158 (by decide) (fun c157 => ?_) (fun c157 => ?_)
                  · rw [pk_lLE (a := a % b) (b := c % d) (mod_63 a hb0 hb) (mod_63 c hd0 hd)] at c157
                    refine r_iconst C (pc := 165) d_Q_isLessThan_165 ?_
                    refine r_goto C (pc := 166) (tgt := 182) d_Q_isLessThan_166 (by decide) ?_
                    exact r_zret C (pc := 182) hQ (by first | exact Or.inl rfl | exact Or.inr rfl | exact zb_01 _ | assumption) (⟨by first | exact zb_of1 (heq.mpr (hI.mpr (cf_r0 hb0 hd0 (by omega) (by omega)))) | exact zb_of0 (fun q => by have := cf_r1 (hI.mp (heq.mp q)) (by omega); omega) | exact zb_of1 (heq.mpr (hJ.mpr (cf_r0 hd0 hb0 (by omega) (by omega)))) | exact zb_of0 (fun q => by have := cf_r1 (hJ.mp (heq.mp q)) (by omega); omega), rfl⟩) d_Q_isLessThan_182
                  · rw [pk_lLE (a := a % b) (b := c % d) (mod_63 a hb0 hb) (mod_63 c hd0 hd)] at c157
                    refine r_iconst C (pc := 161) d_Q_isLessThan_161 ?_
                    refine r_goto C (pc := 162) (tgt := 182) d_Q_isLessThan_162 (by decide) ?_
                    exact r_zret C (pc := 182) hQ (by first | exact Or.inl rfl | exact Or.inr rfl | exact zb_01 _ | assumption) (⟨by first | exact zb_of1 (heq.mpr (hI.mpr (cf_r0 hb0 hd0 (by omega) (by omega)))) | exact zb_of0 (fun q => by have := cf_r1 (hI.mp (heq.mp q)) (by omega); omega) | exact zb_of1 (heq.mpr (hJ.mpr (cf_r0 hd0 hb0 (by omega) (by omega)))) | exact zb_of0 (fun q => by have := cf_r1 (hJ.mp (heq.mp q)) (by omega); omega), rfl⟩) d_Q_isLessThan_182
              · have hr : ¬ a % b = 0 := fun q => c137 (by rw [q]; rfl)
                refine r_lld14 C (pc := 141) d_Q_isLessThan_141 ?_
                refine r_lconst C (pc := 143) (v := 0) rfl d_Q_isLessThan_143 ?_
                refine r_lcmp_ne C (pc := 144) (tgt := 183) d_Q_isLessThan_144 d_Q_isLessThan_145 (by decide) (fun c144 => ?_) (fun c144 => ?_)
                · have hr2 : ¬ c % d = 0 := fun q => c144 (by rw [q]; rfl)
                  refine r_lld4 C (pc := 183) d_Q_isLessThan_183 ?_
                  refine r_lst2 C (pc := 185) rfl d_Q_isLessThan_185 ?_
                  refine r_lld12 C (pc := 186) d_Q_isLessThan_186 ?_
                  refine r_lst4 C (pc := 188) rfl d_Q_isLessThan_188 ?_
                  refine r_lld8 C (pc := 190) d_Q_isLessThan_190 ?_
                  refine r_lst6 C (pc := 192) rfl d_Q_isLessThan_192 ?_
                  refine r_lld14 C (pc := 194) d_Q_isLessThan_194 ?_
                  refine r_lst8 C (pc := 196) rfl d_Q_isLessThan_196 ?_
                  refine r_iinc10 C (pc := 198) rfl d_Q_isLessThan_198 ?_
                  refine r_goto C (pc := 201) (tgt := 26) d_Q_isLessThan_201 (by decide) ?_
                  refine r_weak ?_ (ih b (a % b) d (c % d) (s + 1) hb (mod_63 a hb0 hb) hd (mod_63 c hd0 hd) (by omega) (by omega) (by omega) (Or.inr ho2) hf2 (by first | (rw [if_neg (show ¬ (s + 1) % 2 = 0 by omega), heq, hI, Nat.mul_comm (a % b) d, Nat.mul_comm (c % d) b]) | (rw [if_pos (show (s + 1) % 2 = 0 by omega), heq, hJ, Nat.mul_comm (c % d) b, Nat.mul_comm (a % b) d])) (by omega))
                  exact ⟨Or.inr rfl, Or.inr rfl, Or.inr rfl, Or.inr rfl, Or.inr rfl, Or.inr rfl, Or.inr rfl, Or.inr rfl, Or.inr rfl, Or.inr rfl, Or.inr rfl, Or.inl rfl, Or.inl rfl, Or.inl rfl, Or.inl rfl, Or.inl rfl, trivial⟩
                · have hr2 : c % d = 0 := (pk_lEQ (mod_63 c hd0 hd) (by decide)).mp (c144.trans lN_0.symm)
                  refine r_ild11 C (pc := 148) d_Q_isLessThan_148 ?_
                  refine r_if_eq C (pc := 150) (tgt := 169) (by omega) d_Q_isLessThan_150 (by decide) (fun c150 => ?_) (fun c150 => ?_)
                  · exact absurd c150 (by decide)
                  · refine r_lld12 C (pc := 153) d_Q_isLessThan_153 ?_
                    refine r_lld14 C (pc := 155) d_Q_isLessThan_155 ?_
                    refine r_lcmp_le C (pc := 157) (tgt := 165) d_Q_isLessThan_157 d_Q_isLessThan_158 (by decide) (fun c157 => ?_) (fun c157 => ?_)
                    · rw [pk_lLE (a := a % b) (b := c % d) (mod_63 a hb0 hb) (mod_63 c hd0 hd)] at c157
                      refine r_iconst C (pc := 165) d_Q_isLessThan_165 ?_
                      refine r_goto C (pc := 166) (tgt := 182) d_Q_isLessThan_166 (by decide) ?_
                      exact r_zret C (pc := 182) hQ (by first | exact Or.inl rfl | exact Or.inr rfl | exact zb_01 _ | assumption) (⟨by first | exact zb_of1 (heq.mpr (hI.mpr (cf_r0 hb0 hd0 (by omega) (by omega)))) | exact zb_of0 (fun q => by have := cf_r1 (hI.mp (heq.mp q)) (by omega); omega) | exact zb_of1 (heq.mpr (hJ.mpr (cf_r0 hd0 hb0 (by omega) (by omega)))) | exact zb_of0 (fun q => by have := cf_r1 (hJ.mp (heq.mp q)) (by omega); omega), rfl⟩) d_Q_isLessThan_182
                    · rw [pk_lLE (a := a % b) (b := c % d) (mod_63 a hb0 hb) (mod_63 c hd0 hd)] at c157
                      refine r_iconst C (pc := 161) d_Q_isLessThan_161 ?_
                      refine r_goto C (pc := 162) (tgt := 182) d_Q_isLessThan_162 (by decide) ?_
                      exact r_zret C (pc := 182) hQ (by first | exact Or.inl rfl | exact Or.inr rfl | exact zb_01 _ | assumption) (⟨by first | exact zb_of1 (heq.mpr (hI.mpr (cf_r0 hb0 hd0 (by omega) (by omega)))) | exact zb_of0 (fun q => by have := cf_r1 (hI.mp (heq.mp q)) (by omega); omega) | exact zb_of1 (heq.mpr (hJ.mpr (cf_r0 hd0 hb0 (by omega) (by omega)))) | exact zb_of0 (fun q => by have := cf_r1 (hJ.mp (heq.mp q)) (by omega); omega), rfl⟩) d_Q_isLessThan_182
            · have hq : ¬ a / b = c / d := fun q => c72 (by rw [q])
              have hI := cf_ne hb0 hd0 hq
              have hJ := cf_ne hd0 hb0 (Ne.symm hq)
              refine r_ild11 C (pc := 76) d_Q_isLessThan_76 ?_
              refine r_if_eq C (pc := 78) (tgt := 102) (by omega) d_Q_isLessThan_78 (by decide) (fun c78 => ?_) (fun c78 => ?_)
              · exact absurd c78 (by decide)
              · refine r_lld2 C (pc := 81) d_Q_isLessThan_81 ?_
                refine r_lld4 C (pc := 82) d_Q_isLessThan_82 ?_
                refine r_ldiv C (pc := 84) (lN_ne hb0 hb) d_Q_isLessThan_84 ?_
                refine r_topl (pk_lDiv ha hb0 hb) ?_
                refine r_lld6 C (pc := 85) d_Q_isLessThan_85 ?_
                refine r_lld8 C (pc := 87) d_Q_isLessThan_87 ?_
                refine r_ldiv C (pc := 89) (lN_ne hd0 hd) d_Q_isLessThan_89 ?_
                refine r_topl (pk_lDiv hc hd0 hd) ?_
                refine r_lcmp_le C (pc := 90) (tgt := 98) d_Q_isLessThan_90 d_Q_isLessThan_91 (by decide) (fun c90 => ?_) (fun c90 => ?_)
                · rw [pk_lLE (a := a / b) (b := c / d) (div_63 b ha) (div_63 d hc)] at c90
                  refine r_iconst C (pc := 98) d_Q_isLessThan_98 ?_
                  refine r_goto C (pc := 99) (tgt := 120) d_Q_isLessThan_99 (by decide) ?_
                  exact r_zret C (pc := 120) hQ (by first | exact Or.inl rfl | exact Or.inr rfl | exact zb_01 _ | assumption) (⟨by first | exact zb_of1 (heq.mpr (hI.mpr (by omega))) | exact zb_of0 (fun q => by have := hI.mp (heq.mp q); omega) | exact zb_of1 (heq.mpr (hJ.mpr (by omega))) | exact zb_of0 (fun q => by have := hJ.mp (heq.mp q); omega), rfl⟩) d_Q_isLessThan_120
                · rw [pk_lLE (a := a / b) (b := c / d) (div_63 b ha) (div_63 d hc)] at c90
                  refine r_iconst C (pc := 94) d_Q_isLessThan_94 ?_
                  refine r_goto C (pc := 95) (tgt := 120) d_Q_isLessThan_95 (by decide) ?_
                  exact r_zret C (pc := 120) hQ (by first | exact Or.inl rfl | exact Or.inr rfl | exact zb_01 _ | assumption) (⟨by first | exact zb_of1 (heq.mpr (hI.mpr (by omega))) | exact zb_of0 (fun q => by have := hI.mp (heq.mp q); omega) | exact zb_of1 (heq.mpr (hJ.mpr (by omega))) | exact zb_of0 (fun q => by have := hJ.mp (heq.mp q); omega), rfl⟩) d_Q_isLessThan_120
set_option maxRecDepth 20000 in
theorem c_Q_isLessThan (l : Launch) (E : zE) (M : zM) (k k2 : Nat) (hk : k = 3 ∨ k = 4) (hk2 : k2 = 3 ∨ k2 = 4) (a0 b0 c0 d0 : Nat) (ha : a0 < 2 ^ 63) (hb : b0 < 2 ^ 63) (hc : c0 < 2 ^ 63) (hd : d0 < 2 ^ 63) (hb0 : 0 < b0) (hd0 : 0 < d0) (ea : M.2 k 0 = lN a0) (eb : M.2 k 1 = lN b0) (ec : M.2 k2 0 = lN c0) (ed : M.2 k2 1 = lN d0) : zK l sX E y_Q_isLessThan b_Q_isLessThan 16 (some .boolean) 0 0 [.ref (E.2.2 k), .ref (E.2.2 k2)] M (zPi (fun r M2 => r = zb (a0 * d0 < c0 * b0) ∧ M = M2)) := by
  refine zK.of "OldBeams$Fraction" rfl (by decide) (Nat.le_of_ble_eq_true rfl) ?_
  intro G hS hE hQ hL C
  subst hE
  subst hL
  show VJ G M 0 [some (.ref (G.2.1.2.2 k)), some (.ref (G.2.1.2.2 k2)), none, none, none, none, none, none, none, none, none, none, none, none, none, none] []
  refine r_ald0 C (pc := 0) d_Q_isLessThan_0 ?_
  refine gX_Q_above C (pc := 1) hS hk k_194 d_Q_isLessThan_1 ?_
  rw [ea]
  refine r_lst2 C (pc := 4) rfl d_Q_isLessThan_4 ?_
  refine r_ald0 C (pc := 5) d_Q_isLessThan_5 ?_
  refine gX_Q_below C (pc := 6) hS hk k_195 d_Q_isLessThan_6 ?_
  rw [eb]
  refine r_lst4 C (pc := 9) rfl d_Q_isLessThan_9 ?_
  refine r_ald1 C (pc := 11) d_Q_isLessThan_11 ?_
  refine gX_Q_above C (pc := 12) hS hk2 k_194 d_Q_isLessThan_12 ?_
  rw [ec]
  refine r_lst6 C (pc := 15) rfl d_Q_isLessThan_15 ?_
  refine r_ald1 C (pc := 17) d_Q_isLessThan_17 ?_
  refine gX_Q_below C (pc := 18) hS hk2 k_195 d_Q_isLessThan_18 ?_
  rw [ed]
  refine r_lst8 C (pc := 21) rfl d_Q_isLessThan_21 ?_
  refine r_iconst C (pc := 23) d_Q_isLessThan_23 ?_
  refine r_ist10 C (pc := 24) rfl d_Q_isLessThan_24 ?_
  exact l_Q_isLessThan_26 C hS M k k2 a0 b0 c0 d0 hQ 201 a0 b0 c0 d0 0 ha hb hc hd hb0 hd0 (by omega) (Or.inl rfl) (eu_0 ha hb) (by rw [if_pos (by omega)]) (by omega)
