/-- what the class keeps has not changed -/
def kX (M N : zM) : Prop := (∀ a i, ¬ (45 ≤ a ∧ (a - 45) % 7 = 0 ∧ i = 12) → ¬ (a = 1 ∧ i = 14) → ¬ (a = 7 ∨ a = 6) → N.1 a i = M.1 a i) ∧ ∀ a, 45 ≤ a ∧ (a - 45) % 7 = 4 → N.2 a = M.2 a
theorem kX.rf (M : zM) : kX M M := ⟨fun _ _ _ _ _ => rfl, fun _ _ => rfl⟩
theorem kX.tr {M N O : zM} (h : kX M N) (g : kX N O) : kX M O := ⟨fun a i q q1 q2 => (g.1 a i q q1 q2).trans (h.1 a i q q1 q2), fun a q => (g.2 a q).trans (h.2 a q)⟩
theorem bX.k {M N : zM} (g : bX M N) : kX M N := ⟨fun a i q _ _ => g.1 a i q, fun a q => g.2 a (Or.inr q.2)⟩
theorem tX.k {M N : zM} (g : tX M N) : kX M N := ⟨fun a i q q1 q2 => g.1 a i q q1 (fun e => q2 (Or.inl e)), fun a q => g.2 a (Or.inr q.2)⟩
theorem kX_J {M N : zM} (h1 : N.1 = M.1) (h2 : ∀ a, 45 ≤ a → N.2 a = M.2 a) : kX M N := ⟨fun _ _ _ _ _ => by rw [h1], fun a q => h2 a q.1⟩
theorem RXk {S : zS} {M N : zM} (h : RX S M) (g : kX M N) : RX S N := by
  obtain ⟨g1, g2⟩ := g
  obtain ⟨⟨n0, n1, n2, n3⟩, hk, hb, hb2, ⟨m, hm⟩, hl, hp, ⟨m2, hm2⟩, hw, ht, hlk, hpr⟩ := h
  refine ⟨⟨by rw [g1 1 2 (by omega) (by omega) (by omega)]; exact n0, by rw [g1 1 8 (by omega) (by omega) (by omega)]; exact n1, by rw [g1 2 6 (by omega) (by omega) (by omega)]; exact n2, by rw [g1 1 12 (by omega) (by omega) (by omega)]; exact n3⟩, fun k h1 w h2 => by rw [g1 _ _ (by omega) (by omega) (by omega)]; exact hk k h1 w h2, fun b h1 => ?_, fun b h1 => ⟨by rw [g1 _ _ (by omega) (by omega) (by omega)]; exact (hb2 b h1).1, fun x hx => by rw [g2 _ (by omega)]; exact (hb2 b h1).2 x hx⟩, ⟨m, by rw [g1 1 3 (by omega) (by omega) (by omega)]; exact hm⟩, fun l h1 => ?_, fun p h1 => ?_, ⟨m2, by rw [g1 1 13 (by omega) (by omega) (by omega)]; exact hm2⟩, fun b h1 t h2 => by rw [g1 _ _ (by omega) (by omega) (by omega)]; exact hw b h1 t h2, fun k h1 t h2 => by rw [g1 _ _ (by omega) (by omega) (by omega)]; exact ht k h1 t h2, fun l h1 => ?_, by rw [g1 5 0 (by omega) (by omega) (by omega), g1 5 1 (by omega) (by omega) (by omega)]; exact hpr⟩
  · rw [g1 _ 0 (by omega) (by omega) (by omega), g1 _ 1 (by omega) (by omega) (by omega), g1 _ 2 (by omega) (by omega) (by omega), g1 _ 3 (by omega) (by omega) (by omega)]
    refine ⟨(hb b h1).1, fun s hs => ?_⟩
    rw [g1 (45 + 7 * b + 1) s (by omega) (by omega) (by omega), g1 (45 + 7 * b + 2) s (by omega) (by omega) (by omega), g1 (45 + 7 * b + 3) s (by omega) (by omega) (by omega)]
    exact (hb b h1).2 s hs
  · rw [g1 14 l (by omega) (by omega) (by omega), g1 15 l (by omega) (by omega) (by omega), g1 16 l (by omega) (by omega) (by omega), g1 17 l (by omega) (by omega) (by omega)]
    exact hl l h1
  · rw [g1 18 p (by omega) (by omega) (by omega), g1 19 p (by omega) (by omega) (by omega), g1 20 p (by omega) (by omega) (by omega)]
    exact hp p h1
  · rw [g1 39 l (by omega) (by omega) (by omega), g1 40 l (by omega) (by omega) (by omega), g1 41 l (by omega) (by omega) (by omega), g1 42 l (by omega) (by omega) (by omega)]
    exact hlk l h1
theorem rfS_congr {S : zS} {b : Int} {P Q : Prop} [Decidable P] [Decidable Q] (h : P ↔ Q) : rfS S b P = rfS S b Q := by
  unfold rfS
  simp only [h]
theorem rfS_0 {S : zS} {b : Int} {P : Prop} [Decidable P] (h : rfS S b P = 0) : (0 ≤ b ∧ b < (S.1 0 : Int)) ∧ P ∧ dA S (flS S) b.toNat = false := by
  unfold rfS at h
  by_cases h1 : 0 ≤ b ∧ b < (S.1 0 : Int)
  · rw [if_neg (fun z => z h1)] at h
    by_cases h2 : P
    · rw [if_neg (fun z => z h2)] at h
      by_cases h3 : dA S (flS S) b.toNat = true
      · rw [if_pos h3] at h; exact absurd h (by decide)
      · exact ⟨h1, h2, Bool.eq_false_iff.mpr h3⟩
    · rw [if_pos h2] at h; exact absurd h (by decide)
  · rw [if_pos h1] at h; exact absurd h (by decide)
theorem rfS_rng (S : zS) (b : Int) (P : Prop) [Decidable P] : -900003 ≤ rfS S b P ∧ rfS S b P ≤ 0 := by
  unfold rfS
  split
  · decide
  · split
    · decide
    · split <;> decide
theorem zb_1 (P : Prop) [Decidable P] : zb P = 1 ↔ P := by
  by_cases h : P
  · rw [zb_pos h]; simp [h]
  · rw [zb_neg h]; simp [h]
theorem mostN_le (o : Nat → Nat) : ∀ n : Nat, mostN o (n + 1) ≤ n
  | 0 => by simp [mostN]
  | n + 1 => by
    have ih := mostN_le o n
    unfold mostN
    split
    · omega
    · omega
theorem OD_pos {S : zS} (hO : ok S) {b : Nat} (hb : b < S.1 0) (y : Int) : ∃ t, t < 11 ∧ OD S b y t ≠ 0 := oO_pos hO (by have := hO.n; omega) y _
theorem OD_33 {S : zS} (hO : ok S) {b : Nat} (hb : b < S.1 0) (y : Int) {t : Nat} (ht : t < 11) : OD S b y t < 2 ^ 33 := oO_33 hO (by have := hO.n; omega) y (Nat.le_refl _) ht
theorem KS_le {S : zS} (hO : ok S) {b : Nat} (hb : b < S.1 0) (y : Int) (m : Bool) : KS S b y m ≤ 10 := by
  unfold KS
  split
  · exact mostN_le _ 10
  · obtain ⟨t, h1, h2⟩ := OD_pos hO hb y
    rcases Nat.lt_or_ge (leastN (OD S b y)) 11 with q | q
    · omega
    · have := fsN_no (fun t => decide (OD S b y t ≠ 0)) 11 t (Nat.lt_of_lt_of_le h1 q)
      simp at this
      exact absurd this h2
theorem sN_succ (f : Nat → Nat) (n : Nat) : sN f (n + 1) = sN f n + f n := rfl
theorem sN_le {f g : Nat → Nat} : ∀ n : Nat, (∀ t, t < n → f t ≤ g t) → sN f n ≤ sN g n
  | 0, _ => Nat.le_refl _
  | n + 1, h => by
    have := sN_le n (fun t ht => h t (by omega))
    have := h n (by omega)
    rw [sN_succ, sN_succ]
    omega
theorem sN_mul (f : Nat → Nat) (c : Nat) : ∀ n : Nat, sN (fun t => f t * c) n = sN f n * c
  | 0 => (Nat.zero_mul c).symm
  | n + 1 => by rw [sN_succ, sN_succ, sN_mul f c n, Nat.add_mul]
theorem sN_bnd {f : Nat → Nat} {B : Nat} : ∀ n : Nat, (∀ t, t < n → f t < B) → sN f n ≤ n * B
  | 0, _ => Nat.zero_le _
  | n + 1, h => by
    have h1 := sN_bnd n (fun t ht => h t (by omega))
    have h2 := h n (by omega)
    rw [sN_succ, Nat.succ_mul]
    omega
theorem sN_pos {f : Nat → Nat} {t : Nat} : ∀ n : Nat, t < n → f t ≤ sN f n
  | 0, h => absurd h (Nat.not_lt_zero t)
  | n + 1, h => by
    rw [sN_succ]
    rcases Nat.lt_or_ge t n with q | q
    · have := sN_pos (f := f) n q
      omega
    · rw [show t = n by omega]
      omega
theorem lsN_le (S : zS) (b : Nat) (o : Nat → Nat) : lsN S b o ≤ sN o 11 := sN_le 11 (fun t _ => by
  show (if hoB S (psS S) (dA S (flS S)) b (t : Int) then 0 else o t) ≤ o t
  split <;> omega)
theorem lsN_mul (S : zS) (b : Nat) {f g : Nat → Nat} {c : Nat} (h : ∀ t, t < 11 → f t ≤ g t * c) : lsN S b f ≤ lsN S b g * c := by
  unfold lsN
  rw [← sN_mul]
  refine sN_le 11 (fun t ht => ?_)
  show (if hoB S (psS S) (dA S (flS S)) b (t : Int) then 0 else f t) ≤ (if hoB S (psS S) (dA S (flS S)) b (t : Int) then 0 else g t) * c
  split
  · omega
  · exact h t ht
theorem all_bnd {S : zS} (hO : ok S) {b : Nat} (hb : b < S.1 0) (y : Int) : 0 < allO S b y ∧ allO S b y < 2 ^ 37 := by
  obtain ⟨t, h1, h2⟩ := OD_pos hO hb y
  have h3 := sN_pos (f := OD S b y) 11 h1
  have h4 := sN_bnd (f := OD S b y) (B := 2 ^ 33) 11 (fun t ht => OD_33 hO hb y ht)
  unfold allO
  omega
theorem by1_le {S : zS} (hO : ok S) {b : Nat} (y : Int) {k : Nat} (hk : k < 4) {t : Nat} (ht : t < 11) : by1 S b y k t ≤ OD S b y t * 9 := Nat.mul_le_mul_left _ (by have := hO.2.2.2.2.2.2.2.2.2.1 k hk t ht; omega)
theorem by1_all {S : zS} (hO : ok S) {b : Nat} (y : Int) {k : Nat} (hk : k < 4) : sN (by1 S b y k) 11 ≤ 9 * allO S b y := by
  have h := sN_le (f := by1 S b y k) (g := fun t => OD S b y t * 9) 11 (fun t ht => by1_le hO y hk ht)
  rw [sN_mul] at h
  unfold allO
  omega
theorem by1_lost {S : zS} (hO : ok S) {b : Nat} (y : Int) {k : Nat} (hk : k < 4) : lsN S b (by1 S b y k) ≤ 9 * lost S b y := by
  have h := lsN_mul S b (f := by1 S b y k) (g := OD S b y) (c := 9) (fun t ht => by1_le hO y hk ht)
  unfold lost
  omega
theorem co_le {S : zS} (hO : ok S) (a l : Nat) : co S a l ≤ 9999 * a := by
  have hp := hO.2.2.2.2.2.2.2.2.2.2.2.2.1
  have h1 : (S.2 11 0 0).toNat * a ≤ 9999 * a := Nat.mul_le_mul_right a (by omega)
  unfold co
  split <;> omega
theorem co_two (S : zS) {A L A1 L1 A2 L2 : Nat} (hA : A1 + A2 = 9 * A) (hL : L1 + L2 = 9 * L) : co S A1 L1 + co S A2 L2 ≤ 9 * co S A L := by
  have e1 : (S.2 11 0 0).toNat * A1 + (S.2 11 0 0).toNat * A2 = 9 * ((S.2 11 0 0).toNat * A) := by rw [← Nat.mul_add, hA]; exact Nat.mul_left_comm _ _ _
  have e2 : (S.2 11 1 0).toNat * L1 + (S.2 11 1 0).toNat * L2 = 9 * ((S.2 11 1 0).toNat * L) := by rw [← Nat.mul_add, hL]; exact Nat.mul_left_comm _ _ _
  unfold co
  split <;> split <;> split <;> omega
theorem wor_ok {S : zS} (hO : ok S) {b : Nat} (y : Int) {k : Nat} (hk : k < 4) : co S (sN (by1 S b y k) 11) (lsN S b (by1 S b y k)) + co S (9 * allO S b y - sN (by1 S b y k) 11) (9 * lost S b y - lsN S b (by1 S b y k)) ≤ 9 * co S (allO S b y) (lost S b y) := co_two S (by have := by1_all hO (b := b) y hk; omega) (by have := by1_lost hO (b := b) y hk; omega)
theorem lN_e {a b : Nat} (h : a = b) : lN a = lN b := by rw [h]
set_option maxRecDepth 20000 in
theorem c_O_refusal (l : Launch) (E : zE) (M : zM) (S : zS) (hR : RX S M) (hO : ok S) (b z : Int) (hb : -2147483648 ≤ b ∧ b < 2147483648) (hz : z = 0 ∨ z = 1) : zK l sX E y_O_refusal b_O_refusal 3 (some .int) 4 87 [.ref (E.2.2 0), .int (iI b), .int (iI z)] M (zPi (fun r M2 => r = rfS S b (z = 1) ∧ M = M2)) := by
  refine zK.of "OldBeams" rfl (by decide) (Nat.le_of_ble_eq_true rfl) ?_
  intro G hS hE hQ hL C
  subst hE
  subst hL
  show VJ G M 0 [some (.ref (G.2.1.2.2 0)), some (.int (iI b)), some (.int (iI z))] []
  have h12 := hO.n
  have hbn := hR.n
  refine r_ald0 C (pc := 0) d_O_refusal_0 ?_
  refine gX_O_frame C (pc := 1) hS k_201 d_O_refusal_1 ?_
  refine r_ild1 C (pc := 4) d_O_refusal_4 ?_
  refine call_F_hasBeam C (pc := 5) hS (c_F_hasBeam _ _ M b (by omega) (by omega)) k_257 (by decide) (Nat.le_of_ble_eq_true rfl) rfl d_O_refusal_5 (kkI (fun r5 N5 h5 => ?_))
  obtain ⟨rfl, rfl⟩ := h5
  rw [hbn]
  refine r_ifneB C (pc := 8) (tgt := 14) d_O_refusal_8 (by decide) (fun c8 => ?_) (fun c8 => ?_)
  · obtain ⟨b, rfl⟩ := Int.eq_ofNat_of_zero_le c8.1
    refine r_ild2 C (pc := 14) d_O_refusal_14 ?_
    refine r_if_ne C (pc := 15) (tgt := 21) (by omega) d_O_refusal_15 (by decide) (fun c15 => ?_) (fun c15 => ?_)
    · refine r_ald0 C (pc := 21) d_O_refusal_21 ?_
      refine gX_O_frame C (pc := 22) hS k_201 d_O_refusal_22 ?_
      refine r_ild1 C (pc := 25) d_O_refusal_25 ?_
      refine call_F_isDown C (pc := 26) hS (c_F_isDown _ _ _ S (by assumption) hO _ (by omega)) k_285 (by decide) (Nat.le_of_ble_eq_true rfl) rfl d_O_refusal_26 (kkI (fun r26 N26 h26 => ?_))
      obtain ⟨rfl, rfl⟩ := h26
      refine r_ifeqB C (pc := 29) (tgt := 35) d_O_refusal_29 (by decide) (fun c29 => ?_) (fun c29 => ?_)
      · refine r_iconst C (pc := 35) d_O_refusal_35 ?_
        exact r_iret C (pc := 36) hQ (⟨by unfold rfS; rw [if_neg (by omega), if_neg (by omega), if_neg (by rw [Int.toNat_natCast]; exact c29)], rfl⟩) d_O_refusal_36
      · refine r_ldc C (pc := 32) (z := (-900003)) k_268 rfl d_O_refusal_32 ?_
        exact r_iret C (pc := 34) hQ (⟨by unfold rfS; rw [if_neg (by omega), if_neg (by omega), if_pos (by rw [Int.toNat_natCast]; exact c29)], rfl⟩) d_O_refusal_34
    · refine r_ldc C (pc := 18) (z := (-900002)) k_231 rfl d_O_refusal_18 ?_
      exact r_iret C (pc := 20) hQ (⟨by unfold rfS; rw [if_neg (by omega), if_pos (by omega)], rfl⟩) d_O_refusal_20
  · refine r_ldc C (pc := 11) (z := (-900001)) k_230 rfl d_O_refusal_11 ?_
    exact r_iret C (pc := 13) hQ (⟨by unfold rfS; rw [if_pos c8], rfl⟩) d_O_refusal_13
theorem kX_ts {M N : zM} (h1 : ∀ a i, a ≠ 6 → N.1 a i = M.1 a i) (h2 : ∀ a, a ≠ 43 → a ≠ 44 → N.2 a = M.2 a) : kX M N := ⟨fun a i _ _ q => h1 a i (fun e => q (Or.inr e)), fun a q => h2 a (by omega) (by omega)⟩
set_option maxRecDepth 20000 in
theorem l_O_takeShares_2 {G : zG} (C : zC G b_O_takeShares "OldBeams" none 4 4 106) (hS : G.1 = sX) (M : zM) (S : zS) (hR : RX S M) (hO : ok S) (y : Int) (hy : 0 ≤ y ∧ y ≤ 500) (z : Int) (hz : z = 0 ∨ z = 1) (hQ : G.2.2.1 = zPv (fun M2 => (∀ b, b < S.1 0 → M2.1 6 b = (KS S b y (decide (z = 1)) : Int)) ∧ (∀ a i, a ≠ 6 → M2.1 a i = M.1 a i) ∧ (∀ a, a ≠ 43 → a ≠ 44 → M2.2 a = M.2 a))) : ∀ (n : Nat) (j : Nat) (N : zM), (j ≤ S.1 0) → (∀ b, b < j → N.1 6 b = (KS S b y (decide (z = 1)) : Int)) → (∀ a i, a ≠ 6 → N.1 a i = M.1 a i) → (∀ a, a ≠ 43 → a ≠ 44 → N.2 a = M.2 a) → (S.1 0 - j < n) → VJ G N 2 [some (.ref (zad G 0)), some (.int (iI y)), some (.int (iI z)), some (.int (iI (j : Int)))] [] := by
  intro n
  induction n with
  | zero =>
    intro j N hj hN0 hN1 hN2 hn
    exact absurd hn (by omega)
  | succ n ih =>
    intro j N hj hN0 hN1 hN2 hn
    have h12 := hO.n
    have hRN := RXk hR (kX_ts hN1 hN2)
    refine r_ild3 C (pc := 2) d_O_takeShares_2 ?_
    refine r_ald0 C (pc := 3) d_O_takeShares_3 ?_
    refine gX_O_frame C (pc := 4) hS k_201 d_O_takeShares_4 ?_
    refine gX_F_beamCount C (pc := 7) hS k_98 d_O_takeShares_7 ?_
    rw [hRN.n]
    refine r_icmp_ge C (pc := 10) (tgt := 35) (by omega) (by omega) d_O_takeShares_10 (by decide) (fun c10 => ?_) (fun c10 => ?_)
    · exact r_vret C (pc := 35) hQ (⟨fun b hb => hN0 b (by omega), hN1, hN2⟩) d_O_takeShares_35
    · refine r_ald0 C (pc := 13) d_O_takeShares_13 ?_
      refine gX_O_shares C (pc := 14) hS k_206 d_O_takeShares_14 ?_
      refine r_ild3 C (pc := 17) d_O_takeShares_17 ?_
      refine r_ald0 C (pc := 18) d_O_takeShares_18 ?_
      refine gX_O_looks C (pc := 19) hS k_202 d_O_takeShares_19 ?_
      refine r_ild3 C (pc := 22) d_O_takeShares_22 ?_
      refine r_ild1 C (pc := 23) d_O_takeShares_23 ?_
      refine r_ild2 C (pc := 24) d_O_takeShares_24 ?_
      refine call_K_knownShare C (pc := 25) hS (c_K_knownShare _ _ N S hRN hO j (by omega) y hy z hz) k_478 (by decide) (Nat.le_of_ble_eq_true rfl) rfl d_O_takeShares_25 (kkI (fun r25 N25 h25 => ?_))
      obtain ⟨rfl, a1, a2, -⟩ := h25
      refine X_iastN C (pc := 28) hS (j) (by omega) rfl (by decide) (by omega) (by decide)  d_O_takeShares_28 ?_
      refine r_iinc3 C (pc := 29) rfl d_O_takeShares_29 ?_
      refine r_goto C (pc := 32) (tgt := 2) d_O_takeShares_32 (by decide) ?_
      refine ih (j + 1) _ (by omega) (rowI (N := N25) (f := fun b => (KS S b y (decide (z = 1)) : Int)) (fun b hb => by rw [a1]; exact hN0 b hb) rfl) (fun a i q => by rw [zI_ne q, a1]; exact hN1 a i q) (fun a q1 q2 => (a2 a q1 q2).trans (hN2 a q1 q2)) (by omega)
set_option maxRecDepth 20000 in
theorem c_O_takeShares (l : Launch) (E : zE) (M : zM) (S : zS) (hR : RX S M) (hO : ok S) (y : Int) (hy : 0 ≤ y ∧ y ≤ 500) (z : Int) (hz : z = 0 ∨ z = 1) : zK l sX E y_O_takeShares b_O_takeShares 4 none 4 106 [.ref (E.2.2 0), .int (iI y), .int (iI z)] M (zPv (fun M2 => (∀ b, b < S.1 0 → M2.1 6 b = (KS S b y (decide (z = 1)) : Int)) ∧ (∀ a i, a ≠ 6 → M2.1 a i = M.1 a i) ∧ (∀ a, a ≠ 43 → a ≠ 44 → M2.2 a = M.2 a))) := by
  refine zK.of "OldBeams" rfl (by decide) (Nat.le_of_ble_eq_true rfl) ?_
  intro G hS hE hQ hL C
  subst hE
  subst hL
  show VJ G M 0 [some (.ref (G.2.1.2.2 0)), some (.int (iI y)), some (.int (iI z)), none] []
  refine r_iconst C (pc := 0) d_O_takeShares_0 ?_
  refine r_ist3 C (pc := 1) rfl d_O_takeShares_1 ?_
  exact l_O_takeShares_2 C hS M S hR hO y hy z hz hQ (S.1 0 + 1) 0 M (by omega) (fun b hb => absurd hb (Nat.not_lt_zero b)) (fun _ _ _ => rfl) (fun _ _ _ => rfl) (by omega)
theorem shL_rng {S : zS} (hO : ok S) {b : Nat} (hb : b < S.1 0) {t a : Int} (ht : 0 ≤ t ∧ t ≤ 10) (ha : 0 ≤ a ∧ a ≤ 500) : 0 ≤ shL S b t a ∧ shL S b t a ≤ 10 := by
  have hn := hO.n
  have hk := (hO.2.2.1 b hb).1
  have hw := (hO.2.2.2.1 b (by omega)).1
  have hkk := hO.2.1 (S.2 2 b 0).toNat (by omega)
  have h1 : 0 ≤ S.2 1 (S.2 2 b 0).toNat (1 + (S.2 2 b 4).toNat) ∧ S.2 1 (S.2 2 b 0).toNat (1 + (S.2 2 b 4).toNat) ≤ 10 := by
    rcases hw with h | h
    · rw [h]; exact hkk.2.1
    · rw [h]; exact hkk.2.2
  have h2 := mul_rng ha h1
  unfold shL
  split <;> omega
set_option maxRecDepth 20000 in
theorem l_O_standsAfter_21 {G : zG} (C : zC G b_O_standsAfter "OldBeams" (some .boolean) 3 3 66) (hS : G.1 = sX) (M : zM) (S : zS) (hR : RX S M) (hO : ok S) (sh : Nat → Int) (hsh : ∀ b, b < S.1 0 → M.1 6 b = sh b ∧ 0 ≤ sh b ∧ sh b ≤ 10) (a : Int) (ha : 0 ≤ a ∧ a ≤ 500) (hj : ∀ b, b < S.1 0 → dA S (flS S) b = false → hJ S (psS S) (dA S (flS S)) M b) (hnd : ∀ b, b < S.1 0 → dA S (flS S) b = false) (hQ : G.2.2.1 = zPi (fun r M2 => r = zb ((alN (fun b => !dA S (flS S) b) (S.1 0) && alN (fun b => hoB S (psS S) (dA S (flS S)) b (shL S b (sh b) a)) (S.1 0)) = true) ∧ M = M2)) : ∀ (n : Nat) (j : Nat), (j ≤ S.1 0) → (∀ b, b < j → hoB S (psS S) (dA S (flS S)) b (shL S b (sh b) a) = true) → (S.1 0 - j < n) → VJ G M 21 [some (.ref (zad G 0)), some (.int (iI a)), some (.int (iI (j : Int)))] [] := by
  intro n
  induction n with
  | zero =>
    intro j hjn hp hn
    exact absurd hn (by omega)
  | succ n ih =>
    intro j hjn hp hn
    have h12 := hO.n
    have hbn := hR.n
    refine r_ild2 C (pc := 21) d_O_standsAfter_21 ?_
    refine r_ald0 C (pc := 22) d_O_standsAfter_22 ?_
    refine gX_O_frame C (pc := 23) hS k_201 d_O_standsAfter_23 ?_
    refine gX_F_beamCount C (pc := 26) hS k_98 d_O_standsAfter_26 ?_
    rw [hbn]
    refine r_icmp_ge C (pc := 29) (tgt := 66) (by omega) (by omega) d_O_standsAfter_29 (by decide) (fun c29 => ?_) (fun c29 => ?_)
    · refine r_iconst C (pc := 66) d_O_standsAfter_66 ?_
      exact r_zret C (pc := 67) hQ (by first | exact Or.inl rfl | exact Or.inr rfl | exact zb_01 _ | assumption) (⟨zb_of1 ((Bool.and_eq_true _ _).mpr ⟨(alN_iff _ _).mpr (fun b hb => by rw [hnd b hb]; rfl), (alN_iff _ _).mpr (fun b hb => hp b (by omega))⟩), rfl⟩) d_O_standsAfter_67
    · have hsj := hsh j (by omega)
      have hsr := shL_rng hO (b := j) (by omega) hsj.2 ha
      have hh := hJ_ho (hj j (by omega) (hnd j (by omega))) (shL S j (sh j) a)
      refine r_ald0 C (pc := 32) d_O_standsAfter_32 ?_
      refine gX_O_frame C (pc := 33) hS k_201 d_O_standsAfter_33 ?_
      refine r_ild2 C (pc := 36) d_O_standsAfter_36 ?_
      refine r_ald0 C (pc := 37) d_O_standsAfter_37 ?_
      refine gX_O_frame C (pc := 38) hS k_201 d_O_standsAfter_38 ?_
      refine r_ild2 C (pc := 41) d_O_standsAfter_41 ?_
      refine r_ald0 C (pc := 42) d_O_standsAfter_42 ?_
      refine gX_O_shares C (pc := 43) hS k_206 d_O_standsAfter_43 ?_
      refine r_ild2 C (pc := 46) d_O_standsAfter_46 ?_
      refine X_ialdN C (pc := 47) hS (j) (by omega) rfl (by decide) (by omega) (by decide) d_O_standsAfter_47 ?_
      rw [hsj.1]
      refine r_ild1 C (pc := 48) d_O_standsAfter_48 ?_
      refine call_F_shareLeft C (pc := 49) hS (c_F_shareLeft _ _ _ S (by assumption) hO _ (by omega) _ _ (by omega) (by omega)) k_483 (by decide) (Nat.le_of_ble_eq_true rfl) rfl d_O_standsAfter_49 (kkI (fun r49 N49 h49 => ?_))
      obtain ⟨rfl, rfl⟩ := h49
      refine call_F_holdsWith C (pc := 52) hS (c_F_holdsWith _ _ _ S (by assumption) hO _ (by omega) _ (by omega)) k_404 (by decide) (Nat.le_of_ble_eq_true rfl) rfl d_O_standsAfter_52 (kkI (fun r52 N52 h52 => ?_))
      obtain ⟨rfl, rfl⟩ := h52
      refine r_ifneB C (pc := 55) (tgt := 60) d_O_standsAfter_55 (by decide) (fun c55 => ?_) (fun c55 => ?_)
      · refine r_iinc2 C (pc := 60) rfl d_O_standsAfter_60 ?_
        refine r_goto C (pc := 63) (tgt := 21) d_O_standsAfter_63 (by decide) ?_
        exact ih (j + 1) (by omega) (fun b hb => by
          rcases Nat.lt_or_ge b j with w | w
          · exact hp b w
          · rw [show b = j by omega]; exact hh.mp c55) (by omega)
      · refine r_iconst C (pc := 58) d_O_standsAfter_58 ?_
        exact r_zret C (pc := 59) hQ (by first | exact Or.inl rfl | exact Or.inr rfl | exact zb_01 _ | assumption) (⟨zb_of0 (fun q => c55 (hh.mpr ((alN_iff _ _).mp ((Bool.and_eq_true _ _).mp q).2 j (by omega)))), rfl⟩) d_O_standsAfter_59
theorem dw_0 {S : zS} {w m : Nat} (hO : ok S) (hw12 : w < 4096) (h : ∀ i, i < 12 → m.testBit i = flS S i) (hw : ∀ i, i < 12 → w.testBit i = if i < S.1 0 then dA S (fun j => m.testBit j) i else m.testBit i) : w = 0 ↔ ∀ b, b < S.1 0 → dA S (flS S) b = false := by
  have hn := hO.n
  constructor
  · intro e b hb
    have := hw b (by omega)
    rw [if_pos hb, e, Nat.zero_testBit, dA_fl hO h] at this
    exact this.symm
  · intro q
    apply Nat.eq_of_testBit_eq
    intro i
    rw [Nat.zero_testBit]
    rcases Nat.lt_or_ge i 12 with z | z
    · rw [hw i z]
      by_cases e : i < S.1 0
      · rw [if_pos e, dA_fl hO h]; exact q i e
      · rw [if_neg e, h i z]; exact fl_out hO (by omega) z
    · exact Nat.testBit_lt_two_pow (Nat.lt_of_lt_of_le hw12 (Nat.pow_le_pow_right (n := 2) (by decide) z))
set_option maxRecDepth 20000 in
theorem c_O_standsAfter (l : Launch) (E : zE) (M : zM) (S : zS) (hR : RX S M) (hO : ok S) (sh : Nat → Int) (hsh : ∀ b, b < S.1 0 → M.1 6 b = sh b ∧ 0 ≤ sh b ∧ sh b ≤ 10) (a : Int) (ha : 0 ≤ a ∧ a ≤ 500) (hj : ∀ b, b < S.1 0 → dA S (flS S) b = false → hJ S (psS S) (dA S (flS S)) M b) : zK l sX E y_O_standsAfter b_O_standsAfter 3 (some .boolean) 3 66 [.ref (E.2.2 0), .int (iI a)] M (zPi (fun r M2 => r = zb ((alN (fun b => !dA S (flS S) b) (S.1 0) && alN (fun b => hoB S (psS S) (dA S (flS S)) b (shL S b (sh b) a)) (S.1 0)) = true) ∧ M = M2)) := by
  refine zK.of "OldBeams" rfl (by decide) (Nat.le_of_ble_eq_true rfl) ?_
  intro G hS hE hQ hL C
  subst hE
  subst hL
  show VJ G M 0 [some (.ref (G.2.1.2.2 0)), some (.int (iI a)), none] []
  have h12 := hO.n
  obtain ⟨m, em, hm, hmb⟩ := hR.2.2.2.2.1
  refine r_ald0 C (pc := 0) d_O_standsAfter_0 ?_
  refine gX_O_frame C (pc := 1) hS k_201 d_O_standsAfter_1 ?_
  refine r_ald0 C (pc := 4) d_O_standsAfter_4 ?_
  refine gX_O_frame C (pc := 5) hS k_201 d_O_standsAfter_5 ?_
  refine gX_F_fallen C (pc := 8) hS k_99 d_O_standsAfter_8 ?_
  rw [em]
  refine call_F_downBy C (pc := 11) hS (c_F_downBy _ _ _ S (by assumption) hO _ (by omega)) k_325 (by decide) (Nat.le_of_ble_eq_true rfl) rfl d_O_standsAfter_11 (kkI (fun r11 N11 h11 => ?_))
  obtain ⟨⟨w, rfl, hw, hwb⟩, rfl⟩ := h11
  refine r_if_eq C (pc := 14) (tgt := 19) (by omega) d_O_standsAfter_14 (by decide) (fun c14 => ?_) (fun c14 => ?_)
  · have hnd := (dw_0 hO hw hmb hwb).mp (by omega)
    refine r_iconst C (pc := 19) d_O_standsAfter_19 ?_
    refine r_ist2 C (pc := 20) rfl d_O_standsAfter_20 ?_
    exact l_O_standsAfter_21 C hS M S hR hO sh hsh a ha hj hnd hQ (S.1 0 + 1) 0 (by omega) (fun b hb => absurd hb (Nat.not_lt_zero b)) (by omega)
  · have hnn := mt (dw_0 hO hw hmb hwb).mpr (by omega)
    refine r_iconst C (pc := 17) d_O_standsAfter_17 ?_
    exact r_zret C (pc := 18) hQ (by first | exact Or.inl rfl | exact Or.inr rfl | exact zb_01 _ | assumption) (⟨zb_of0 (fun q => hnn (fun b hb => by have := (alN_iff _ _).mp ((Bool.and_eq_true _ _).mp q).1 b hb; simpa using this)), rfl⟩) d_O_standsAfter_18
set_option maxRecDepth 20000 in
theorem l_O_lostOdds_5 {G : zG} (C : zC G b_O_lostOdds "OldBeams" (some .long) 5 2 45) (hS : G.1 = sX) (M : zM) (S : zS) (hR : RX S M) (hO : ok S) (b : Nat) (hb : b < S.1 0) (hj : hJ S (psS S) (dA S (flS S)) M b) (o9 : Nat → Nat) (ho : ∀ t, t < 11 → M.2 43 t = lN (o9 t)) (hQ : G.2.2.1 = zPl (fun r M2 => r = lN (lsN S b o9) ∧ M = M2)) : ∀ (n : Nat) (j : Nat), (j ≤ 11) → (11 - j < n) → VJ G M 5 [some (.ref (zad G 0)), some (.int (iI (b : Int))), some (.long (lN (sN (fun t => if hoB S (psS S) (dA S (flS S)) b (t : Int) then 0 else o9 t) j))), none, some (.int (iI (j : Int)))] [] := by
  intro n
  induction n with
  | zero =>
    intro j hjn hn
    exact absurd hn (by omega)
  | succ n ih =>
    intro j hjn hn
    have h12 := hO.n
    have es := sN_succ (fun t => if hoB S (psS S) (dA S (flS S)) b (t : Int) then 0 else o9 t) j
    have hh := hJ_ho hj (j : Int)
    refine r_ild4 C (pc := 5) d_O_lostOdds_5 ?_
    refine r_bipush C (pc := 7) (n := 11) rfl d_O_lostOdds_7 ?_
    refine r_icmp_ge C (pc := 9) (tgt := 44) (by omega) (by omega) d_O_lostOdds_9 (by decide) (fun c9 => ?_) (fun c9 => ?_)
    · refine r_lld2 C (pc := 44) d_O_lostOdds_44 ?_
      exact r_lret C (pc := 45) hQ (⟨by unfold lsN; rw [show j = 11 by omega], rfl⟩) d_O_lostOdds_45
    · refine r_ald0 C (pc := 12) d_O_lostOdds_12 ?_
      refine gX_O_frame C (pc := 13) hS k_201 d_O_lostOdds_13 ?_
      refine r_ild1 C (pc := 16) d_O_lostOdds_16 ?_
      refine r_ild4 C (pc := 17) d_O_lostOdds_17 ?_
      refine call_F_holdsWith C (pc := 19) hS (c_F_holdsWith _ _ _ S (by assumption) hO _ (by omega) _ (by omega)) k_404 (by decide) (Nat.le_of_ble_eq_true rfl) rfl d_O_lostOdds_19 (kkI (fun r19 N19 h19 => ?_))
      obtain ⟨rfl, rfl⟩ := h19
      refine r_ifneB C (pc := 22) (tgt := 38) d_O_lostOdds_22 (by decide) (fun c22 => ?_) (fun c22 => ?_)
      · refine r_iinc4 C (pc := 38) rfl d_O_lostOdds_38 ?_
        refine r_goto C (pc := 41) (tgt := 5) d_O_lostOdds_41 (by decide) ?_
        refine r_weak ?_ (ih (j + 1) (by omega) (by omega))
        exact ⟨Or.inr rfl, Or.inr rfl, Or.inr (by rw [es]; first | rw [if_pos (hh.mp c22), Nat.add_zero] | rw [if_neg (fun q => c22 (hh.mpr q))]), Or.inr rfl, Or.inr rfl, trivial⟩
      · refine r_lld2 C (pc := 25) d_O_lostOdds_25 ?_
        refine r_ald0 C (pc := 26) d_O_lostOdds_26 ?_
        refine gX_O_looks C (pc := 27) hS k_202 d_O_lostOdds_27 ?_
        refine gX_K_known C (pc := 30) hS k_167 d_O_lostOdds_30 ?_
        refine r_ild4 C (pc := 33) d_O_lostOdds_33 ?_
        refine X_laldN C (pc := 35) hS (j) (by omega) rfl (by decide) (by omega) (by decide) d_O_lostOdds_35 ?_
        rw [ho j (by omega)]
        refine r_ladd C (pc := 36) d_O_lostOdds_36 ?_
        rw [lN_add]
        refine r_lst2 C (pc := 37) rfl d_O_lostOdds_37 ?_
        refine r_iinc4 C (pc := 38) rfl d_O_lostOdds_38 ?_
        refine r_goto C (pc := 41) (tgt := 5) d_O_lostOdds_41 (by decide) ?_
        refine r_weak ?_ (ih (j + 1) (by omega) (by omega))
        exact ⟨Or.inr rfl, Or.inr rfl, Or.inr (by rw [es]; first | rw [if_pos (hh.mp c22), Nat.add_zero] | rw [if_neg (fun q => c22 (hh.mpr q))]), Or.inr rfl, Or.inr rfl, trivial⟩
set_option maxRecDepth 20000 in
theorem c_O_lostOdds (l : Launch) (E : zE) (M : zM) (S : zS) (hR : RX S M) (hO : ok S) (b : Nat) (hb : b < S.1 0) (hj : hJ S (psS S) (dA S (flS S)) M b) (o9 : Nat → Nat) (ho : ∀ t, t < 11 → M.2 43 t = lN (o9 t)) : zK l sX E y_O_lostOdds b_O_lostOdds 5 (some .long) 2 45 [.ref (E.2.2 0), .int (iI (b : Int))] M (zPl (fun r M2 => r = lN (lsN S b o9) ∧ M = M2)) := by
  refine zK.of "OldBeams" rfl (by decide) (Nat.le_of_ble_eq_true rfl) ?_
  intro G hS hE hQ hL C
  subst hE
  subst hL
  show VJ G M 0 [some (.ref (G.2.1.2.2 0)), some (.int (iI (b : Int))), none, none, none] []
  refine r_lconst C (pc := 0) (v := 0) rfl d_O_lostOdds_0 ?_
  refine r_lst2 C (pc := 1) rfl d_O_lostOdds_1 ?_
  refine r_iconst C (pc := 2) d_O_lostOdds_2 ?_
  refine r_ist4 C (pc := 3) rfl d_O_lostOdds_3 ?_
  exact l_O_lostOdds_5 C hS M S hR hO b hb hj o9 ho hQ 12 0 (by omega) (by omega)
set_option maxRecDepth 20000 in
theorem c_O_cost (l : Launch) (E : zE) (M : zM) (S : zS) (hR : RX S M) (hO : ok S) (a w : Nat) (ha : a < 2 ^ 45) (hw : w < 2 ^ 45) : zK l sX E y_O_cost b_O_cost 5 (some .long) 1 23 [.ref (E.2.2 0), .long (lN a), .long (lN w)] M (zPl (fun r M2 => r = lN (co S a w) ∧ M = M2)) := by
  refine zK.of "OldBeams" rfl (by decide) (Nat.le_of_ble_eq_true rfl) ?_
  intro G hS hE hQ hL C
  subst hE
  subst hL
  show VJ G M 0 [some (.ref (G.2.1.2.2 0)), some (.long (lN a)), none, some (.long (lN w)), none] []
  have hpr := hR.2.2.2.2.2.2.2.2.2.2.2
  have hpo := hO.2.2.2.2.2.2.2.2.2.2.2.2.1
  have hpo2 := hO.2.2.2.2.2.2.2.2.2.2.2.2.2
  have m1 : (S.2 11 0 0).toNat * a ≤ 9999 * a := Nat.mul_le_mul_right a (by omega)
  have m2 : (S.2 11 1 0).toNat * w ≤ 9999 * w := Nat.mul_le_mul_right w (by omega)
  refine r_ald0 C (pc := 0) d_O_cost_0 ?_
  refine gX_O_prices C (pc := 1) hS k_205 d_O_cost_1 ?_
  refine r_iconst C (pc := 4) d_O_cost_4 ?_
  refine X_ialdN C (pc := 5) hS (0) (by omega) rfl (by decide) (by omega) (by decide) d_O_cost_5 ?_
  rw [hpr.1]
  refine r_i2l C (pc := 6) (by omega) d_O_cost_6 ?_
  refine r_lld1 C (pc := 7) d_O_cost_7 ?_
  refine r_lmul C (pc := 8) d_O_cost_8 ?_
  rw [lI_lN (by omega), lN_mul]
  refine r_ald0 C (pc := 9) d_O_cost_9 ?_
  refine gX_O_prices C (pc := 10) hS k_205 d_O_cost_10 ?_
  refine r_iconst C (pc := 13) d_O_cost_13 ?_
  refine X_ialdN C (pc := 14) hS (1) (by omega) rfl (by decide) (by omega) (by decide) d_O_cost_14 ?_
  rw [hpr.2]
  refine r_i2l C (pc := 15) (by omega) d_O_cost_15 ?_
  refine r_lld3 C (pc := 16) d_O_cost_16 ?_
  refine r_lmul C (pc := 17) d_O_cost_17 ?_
  rw [lI_lN (by omega), lN_mul]
  refine call_Ma_min C (pc := 18) hS (c_Ma_min _ _ _ _ _) k_606 (by decide) (Nat.le_of_ble_eq_true rfl) rfl d_O_cost_18 (kkL (fun r18 N18 h18 => ?_))
  obtain ⟨rfl, rfl⟩ := h18
  exact r_lret C (pc := 21) hQ (⟨by have hl := pk_lLT (a := (S.2 11 1 0).toNat * w) (b := (S.2 11 0 0).toNat * a) (by omega) (by omega); unfold co; by_cases q : (S.2 11 1 0).toNat * w < (S.2 11 0 0).toNat * a; (· rw [if_pos q, if_pos (hl.mpr q)]); rw [if_neg q, if_neg (fun z => q (hl.mp z))], rfl⟩) d_O_cost_21
set_option maxRecDepth 20000 in
theorem c_O_putChance (l : Launch) (E : zE) (M : zM) (S : zS) (hR : RX S M) (hO : ok S) (b : Nat) (hb : b < S.1 0) (y : Int) (hj : hJ S (psS S) (dA S (flS S)) M b) (ho : ∀ t, t < 11 → M.2 43 t = lN (OD S b y t)) : zK l sX E y_O_putChance b_O_putChance 4 none 3 69 [.ref (E.2.2 0), .int (iI (b : Int))] M (zPv (fun M2 => zJ (zJ M 3 0 (lN (held S b y / Nat.gcd (held S b y) (allO S b y)))) 3 1 (lN ((allO S b y) / Nat.gcd (held S b y) (allO S b y))) = M2)) := by
  refine zK.of "OldBeams" rfl (by decide) (Nat.le_of_ble_eq_true rfl) ?_
  intro G hS hE hQ hL C
  subst hE
  subst hL
  show VJ G M 0 [some (.ref (G.2.1.2.2 0)), some (.int (iI (b : Int))), none, none] []
  have hab := all_bnd hO hb y
  have hll : lost S b y ≤ allO S b y := lsN_le S b _
  refine r_ald0 C (pc := 0) d_O_putChance_0 ?_
  refine gX_O_looks C (pc := 1) hS k_202 d_O_putChance_1 ?_
  refine call_K_allOdds C (pc := 4) hS (c_K_allOdds _ _ M (OD S b y) ho) k_514 (by decide) (Nat.le_of_ble_eq_true rfl) rfl d_O_putChance_4 (kkL (fun r4 N4 h4 => ?_))
  obtain ⟨rfl, rfl⟩ := h4
  rw [show sN (OD S b y) 11 = allO S b y from rfl]
  refine r_lst2 C (pc := 7) rfl d_O_putChance_7 ?_
  refine r_ald0 C (pc := 8) d_O_putChance_8 ?_
  refine gX_O_fraction C (pc := 9) hS k_203 d_O_putChance_9 ?_
  refine r_lld2 C (pc := 12) d_O_putChance_12 ?_
  refine r_ald0 C (pc := 13) d_O_putChance_13 ?_
  refine r_ild1 C (pc := 14) d_O_putChance_14 ?_
  refine call_O_lostOdds C (pc := 15) hS (c_O_lostOdds _ _ M S hR hO b hb hj (OD S b y) ho) k_518 (by decide) (Nat.le_of_ble_eq_true rfl) rfl d_O_putChance_15 (kkL (fun r15 N15 h15 => ?_))
  obtain ⟨rfl, rfl⟩ := h15
  rw [show lsN S b (OD S b y) = lost S b y from rfl]
  refine r_lsub C (pc := 18) d_O_putChance_18 ?_
  rw [lN_sub hll, show allO S b y - lost S b y = held S b y from rfl]
  refine r_lld2 C (pc := 19) d_O_putChance_19 ?_
  refine call_Q_put C (pc := 20) hS (by decide) (c_Q_put _ _ _ 3 (by decide) (held S b y) (allO S b y) (by unfold held; omega) (by omega) (by omega)) k_522 (by decide) (Nat.le_of_ble_eq_true rfl) rfl d_O_putChance_20 (kkV (fun N20 h20 => ?_))
  subst h20
  exact r_vret C (pc := 23) hQ (rfl) d_O_putChance_23
set_option maxRecDepth 20000 in
theorem c_O_putMean (l : Launch) (E : zE) (M : zM) (S : zS) (hR : RX S M) (hO : ok S) (b : Nat) (hb : b < S.1 0) (y : Int) (hj : hJ S (psS S) (dA S (flS S)) M b) (ho : ∀ t, t < 11 → M.2 43 t = lN (OD S b y t)) : zK l sX E y_O_putMean b_O_putMean 4 none 3 69 [.ref (E.2.2 0), .int (iI (b : Int))] M (zPv (fun M2 => zJ (zJ M 3 0 (lN (co S (allO S b y) (lost S b y) / Nat.gcd (co S (allO S b y) (lost S b y)) (allO S b y)))) 3 1 (lN ((allO S b y) / Nat.gcd (co S (allO S b y) (lost S b y)) (allO S b y))) = M2)) := by
  refine zK.of "OldBeams" rfl (by decide) (Nat.le_of_ble_eq_true rfl) ?_
  intro G hS hE hQ hL C
  subst hE
  subst hL
  show VJ G M 0 [some (.ref (G.2.1.2.2 0)), some (.int (iI (b : Int))), none, none] []
  have hab := all_bnd hO hb y
  have hll : lost S b y ≤ allO S b y := lsN_le S b _
  have hcl := co_le hO (allO S b y) (lost S b y)
  refine r_ald0 C (pc := 0) d_O_putMean_0 ?_
  refine gX_O_looks C (pc := 1) hS k_202 d_O_putMean_1 ?_
  refine call_K_allOdds C (pc := 4) hS (c_K_allOdds _ _ M (OD S b y) ho) k_514 (by decide) (Nat.le_of_ble_eq_true rfl) rfl d_O_putMean_4 (kkL (fun r4 N4 h4 => ?_))
  obtain ⟨rfl, rfl⟩ := h4
  rw [show sN (OD S b y) 11 = allO S b y from rfl]
  refine r_lst2 C (pc := 7) rfl d_O_putMean_7 ?_
  refine r_ald0 C (pc := 8) d_O_putMean_8 ?_
  refine gX_O_fraction C (pc := 9) hS k_203 d_O_putMean_9 ?_
  refine r_ald0 C (pc := 12) d_O_putMean_12 ?_
  refine r_lld2 C (pc := 13) d_O_putMean_13 ?_
  refine r_ald0 C (pc := 14) d_O_putMean_14 ?_
  refine r_ild1 C (pc := 15) d_O_putMean_15 ?_
  refine call_O_lostOdds C (pc := 16) hS (c_O_lostOdds _ _ M S hR hO b hb hj (OD S b y) ho) k_518 (by decide) (Nat.le_of_ble_eq_true rfl) rfl d_O_putMean_16 (kkL (fun r16 N16 h16 => ?_))
  obtain ⟨rfl, rfl⟩ := h16
  rw [show lsN S b (OD S b y) = lost S b y from rfl]
  refine call_O_cost C (pc := 19) hS (c_O_cost _ _ M S hR hO _ _ (by omega) (by omega)) k_602 (by decide) (Nat.le_of_ble_eq_true rfl) rfl d_O_putMean_19 (kkL (fun r19 N19 h19 => ?_))
  obtain ⟨rfl, rfl⟩ := h19
  refine r_lld2 C (pc := 22) d_O_putMean_22 ?_
  refine call_Q_put C (pc := 23) hS (by decide) (c_Q_put _ _ _ 3 (by decide) _ (allO S b y) (by omega) (by omega) (by omega)) k_522 (by decide) (Nat.le_of_ble_eq_true rfl) rfl d_O_putMean_23 (kkV (fun N23 h23 => ?_))
  subst h23
  exact r_vret C (pc := 26) hQ (rfl) d_O_putMean_26
set_option maxRecDepth 20000 in
theorem l_O_putWorth_8 {G : zG} (C : zC G b_O_putWorth "OldBeams" none 15 3 69) (hS : G.1 = sX) (M : zM) (S : zS) (hR : RX S M) (hO : ok S) (b : Nat) (hb : b < S.1 0) (y : Int) (k : Nat) (hk4 : k < 4) (hj : hJ S (psS S) (dA S (flS S)) M b) (ho : ∀ t, t < 11 → M.2 43 t = lN (OD S b y t)) (hQ : G.2.2.1 = zPv (fun M2 => zJ (zJ M 3 0 (lN (wor S b y k / Nat.gcd (wor S b y k) (9 * allO S b y)))) 3 1 (lN ((9 * allO S b y) / Nat.gcd (wor S b y k) (9 * allO S b y))) = M2)) : ∀ (n : Nat) (j : Nat), (j ≤ 11) → (11 - j < n) → VJ G M 8 [some (.ref (zad G 0)), some (.int (iI (b : Int))), some (.int (iI (k : Int))), some (.long (lN (sN (by1 S b y k) j))), none, some (.long (lN (sN (fun t => if hoB S (psS S) (dA S (flS S)) b (t : Int) then 0 else by1 S b y k t) j))), none, some (.int (iI (j : Int))), none, none, none, none, none, none, none] [] := by
  intro n
  induction n with
  | zero =>
    intro j hjn hn
    exact absurd hn (by omega)
  | succ n ih =>
    intro j hjn hn
    have h12 := hO.n
    have es := sN_succ (fun t => if hoB S (psS S) (dA S (flS S)) b (t : Int) then 0 else by1 S b y k t) j
    have hh := hJ_ho hj (j : Int)
    refine r_ild7 C (pc := 8) d_O_putWorth_8 ?_
    refine r_bipush C (pc := 10) (n := 11) rfl d_O_putWorth_10 ?_
    refine r_icmp_ge C (pc := 12) (tgt := 72) (by omega) (by omega) d_O_putWorth_12 (by decide) (fun c12 => ?_) (fun c12 => ?_)
    · have ej : j = 11 := by omega
      subst ej
      have hab := all_bnd hO hb y
      have hll : lost S b y ≤ allO S b y := lsN_le S b _
      have hb1 := by1_all hO (b := b) y hk4
      have hb2 := by1_lost hO (b := b) y hk4
      have hcl := co_le hO (allO S b y) (lost S b y)
      have hwo := wor_ok hO (b := b) y hk4
      rw [show sN (fun t => if hoB S (psS S) (dA S (flS S)) b (t : Int) then 0 else by1 S b y k t) 11 = lsN S b (by1 S b y k) from rfl]
      refine r_ald0 C (pc := 72) d_O_putWorth_72 ?_
      refine gX_O_looks C (pc := 73) hS k_202 d_O_putWorth_73 ?_
      refine call_K_allOdds C (pc := 76) hS (c_K_allOdds _ _ M (OD S b y) ho) k_514 (by decide) (Nat.le_of_ble_eq_true rfl) rfl d_O_putWorth_76 (kkL (fun r76 N76 h76 => ?_))
      obtain ⟨rfl, rfl⟩ := h76
      rw [show sN (OD S b y) 11 = allO S b y from rfl]
      refine r_lst7 C (pc := 79) rfl d_O_putWorth_79 ?_
      refine r_ald0 C (pc := 81) d_O_putWorth_81 ?_
      refine r_ild1 C (pc := 82) d_O_putWorth_82 ?_
      refine call_O_lostOdds C (pc := 83) hS (c_O_lostOdds _ _ M S hR hO b hb hj (OD S b y) ho) k_518 (by decide) (Nat.le_of_ble_eq_true rfl) rfl d_O_putWorth_83 (kkL (fun r83 N83 h83 => ?_))
      obtain ⟨rfl, rfl⟩ := h83
      rw [show lsN S b (OD S b y) = lost S b y from rfl]
      refine r_lst9 C (pc := 86) rfl d_O_putWorth_86 ?_
      refine r_ldc2 C (pc := 88) k_617 d_O_putWorth_88 ?_
      refine r_ald0 C (pc := 91) d_O_putWorth_91 ?_
      refine r_lld7 C (pc := 92) d_O_putWorth_92 ?_
      refine r_lld9 C (pc := 94) d_O_putWorth_94 ?_
      refine call_O_cost C (pc := 96) hS (c_O_cost _ _ M S hR hO _ _ (by omega) (by omega)) k_602 (by decide) (Nat.le_of_ble_eq_true rfl) rfl d_O_putWorth_96 (kkL (fun r96 N96 h96 => ?_))
      obtain ⟨rfl, rfl⟩ := h96
      refine r_lmul C (pc := 99) d_O_putWorth_99 ?_
      rw [show (9 : Int64) = lN 9 from rfl, lN_mul]
      refine r_lst11 C (pc := 100) rfl d_O_putWorth_100 ?_
      refine r_ald0 C (pc := 102) d_O_putWorth_102 ?_
      refine r_lld3 C (pc := 103) d_O_putWorth_103 ?_
      refine r_lld5 C (pc := 104) d_O_putWorth_104 ?_
      refine call_O_cost C (pc := 106) hS (c_O_cost _ _ M S hR hO _ _ (by omega) (by omega)) k_602 (by decide) (Nat.le_of_ble_eq_true rfl) rfl d_O_putWorth_106 (kkL (fun r106 N106 h106 => ?_))
      obtain ⟨rfl, rfl⟩ := h106
      refine r_ald0 C (pc := 109) d_O_putWorth_109 ?_
      refine r_ldc2 C (pc := 110) k_617 d_O_putWorth_110 ?_
      refine r_lld7 C (pc := 113) d_O_putWorth_113 ?_
      refine r_lmul C (pc := 115) d_O_putWorth_115 ?_
      rw [show (9 : Int64) = lN 9 from rfl, lN_mul]
      refine r_lld3 C (pc := 116) d_O_putWorth_116 ?_
      refine r_lsub C (pc := 117) d_O_putWorth_117 ?_
      rw [lN_sub hb1]
      refine r_ldc2 C (pc := 118) k_617 d_O_putWorth_118 ?_
      refine r_lld9 C (pc := 121) d_O_putWorth_121 ?_
      refine r_lmul C (pc := 123) d_O_putWorth_123 ?_
      rw [show (9 : Int64) = lN 9 from rfl, lN_mul]
      refine r_lld5 C (pc := 124) d_O_putWorth_124 ?_
      refine r_lsub C (pc := 126) d_O_putWorth_126 ?_
      rw [lN_sub hb2]
      refine call_O_cost C (pc := 127) hS (c_O_cost _ _ M S hR hO _ _ (by omega) (by omega)) k_602 (by decide) (Nat.le_of_ble_eq_true rfl) rfl d_O_putWorth_127 (kkL (fun r127 N127 h127 => ?_))
      obtain ⟨rfl, rfl⟩ := h127
      refine r_ladd C (pc := 130) d_O_putWorth_130 ?_
      rw [lN_add]
      refine r_lst13 C (pc := 131) rfl d_O_putWorth_131 ?_
      refine r_ald0 C (pc := 133) d_O_putWorth_133 ?_
      refine gX_O_fraction C (pc := 134) hS k_203 d_O_putWorth_134 ?_
      refine r_lld11 C (pc := 137) d_O_putWorth_137 ?_
      refine r_lld13 C (pc := 139) d_O_putWorth_139 ?_
      refine r_lsub C (pc := 141) d_O_putWorth_141 ?_
      rw [lN_sub hwo, show 9 * co S (allO S b y) (lost S b y) - (co S (sN (by1 S b y k) 11) (lsN S b (by1 S b y k)) + co S (9 * allO S b y - sN (by1 S b y k) 11) (9 * lost S b y - lsN S b (by1 S b y k))) = wor S b y k from rfl]
      refine r_ldc2 C (pc := 142) k_617 d_O_putWorth_142 ?_
      refine r_lld7 C (pc := 145) d_O_putWorth_145 ?_
      refine r_lmul C (pc := 147) d_O_putWorth_147 ?_
      rw [show (9 : Int64) = lN 9 from rfl, lN_mul]
      refine call_Q_put C (pc := 148) hS (by decide) (c_Q_put _ _ _ 3 (by decide) _ _ (by unfold wor; omega) (by omega) (by omega)) k_522 (by decide) (Nat.le_of_ble_eq_true rfl) rfl d_O_putWorth_148 (kkV (fun N148 h148 => ?_))
      subst h148
      exact r_vret C (pc := 151) hQ (rfl) d_O_putWorth_151
    · have htr := hR.2.2.2.2.2.2.2.2.2.1 k hk4 j (by omega)
      have hto := hO.2.2.2.2.2.2.2.2.2.1 k hk4 j (by omega)
      refine r_ald0 C (pc := 15) d_O_putWorth_15 ?_
      refine gX_O_looks C (pc := 16) hS k_202 d_O_putWorth_16 ?_
      refine gX_K_known C (pc := 19) hS k_167 d_O_putWorth_19 ?_
      refine r_ild7 C (pc := 22) d_O_putWorth_22 ?_
      refine X_laldN C (pc := 24) hS (j) (by omega) rfl (by decide) (by omega) (by decide) d_O_putWorth_24 ?_
      rw [ho j (by omega)]
      refine r_ald0 C (pc := 25) d_O_putWorth_25 ?_
      refine gX_O_looks C (pc := 26) hS k_202 d_O_putWorth_26 ?_
      refine gX_K_tools C (pc := 29) hS k_159 d_O_putWorth_29 ?_
      refine r_ild2 C (pc := 32) d_O_putWorth_32 ?_
      refine X_toolsN C (pc := 33) hS (k) (by omega) (by omega) d_O_putWorth_33 ?_
      refine r_ild7 C (pc := 34) d_O_putWorth_34 ?_
      refine X_ialdN C (pc := 36) hS (j) (by omega) (shTr (by omega)) (by omega) (by omega) (by decide) d_O_putWorth_36 ?_
      rw [htr]
      refine r_i2l C (pc := 37) (by omega) d_O_putWorth_37 ?_
      refine r_lmul C (pc := 38) d_O_putWorth_38 ?_
      rw [lI_lN (by omega), lN_mul, show OD S b y j * (S.2 9 k j).toNat = by1 S b y k j from rfl]
      refine r_lst8 C (pc := 39) rfl d_O_putWorth_39 ?_
      refine r_lld3 C (pc := 41) d_O_putWorth_41 ?_
      refine r_lld8 C (pc := 42) d_O_putWorth_42 ?_
      refine r_ladd C (pc := 44) d_O_putWorth_44 ?_
      rw [lN_add]
      refine r_lst3 C (pc := 45) rfl d_O_putWorth_45 ?_
      refine r_ald0 C (pc := 46) d_O_putWorth_46 ?_
      refine gX_O_frame C (pc := 47) hS k_201 d_O_putWorth_47 ?_
      refine r_ild1 C (pc := 50) d_O_putWorth_50 ?_
      refine r_ild7 C (pc := 51) d_O_putWorth_51 ?_
      refine call_F_holdsWith C (pc := 53) hS (c_F_holdsWith _ _ _ S (by assumption) hO _ (by omega) _ (by omega)) k_404 (by decide) (Nat.le_of_ble_eq_true rfl) rfl d_O_putWorth_53 (kkI (fun r53 N53 h53 => ?_))
      obtain ⟨rfl, rfl⟩ := h53
      refine r_ifneB C (pc := 56) (tgt := 66) d_O_putWorth_56 (by decide) (fun c56 => ?_) (fun c56 => ?_)
      · refine r_iinc7 C (pc := 66) rfl d_O_putWorth_66 ?_
        refine r_goto C (pc := 69) (tgt := 8) d_O_putWorth_69 (by decide) ?_
        refine r_weak ?_ (ih (j + 1) (by omega) (by omega))
        exact ⟨Or.inr rfl, Or.inr rfl, Or.inr rfl, Or.inr rfl, Or.inr rfl, Or.inr (by rw [es]; first | rw [if_pos (hh.mp c56), Nat.add_zero] | rw [if_neg (fun q => c56 (hh.mpr q))]), Or.inr rfl, Or.inr rfl, Or.inl rfl, Or.inl rfl, Or.inl rfl, Or.inl rfl, Or.inl rfl, Or.inl rfl, Or.inl rfl, trivial⟩
      · refine r_lld5 C (pc := 59) d_O_putWorth_59 ?_
        refine r_lld8 C (pc := 61) d_O_putWorth_61 ?_
        refine r_ladd C (pc := 63) d_O_putWorth_63 ?_
        rw [lN_add]
        refine r_lst5 C (pc := 64) rfl d_O_putWorth_64 ?_
        refine r_iinc7 C (pc := 66) rfl d_O_putWorth_66 ?_
        refine r_goto C (pc := 69) (tgt := 8) d_O_putWorth_69 (by decide) ?_
        refine r_weak ?_ (ih (j + 1) (by omega) (by omega))
        exact ⟨Or.inr rfl, Or.inr rfl, Or.inr rfl, Or.inr rfl, Or.inr rfl, Or.inr (by rw [es]; first | rw [if_pos (hh.mp c56), Nat.add_zero] | rw [if_neg (fun q => c56 (hh.mpr q))]), Or.inr rfl, Or.inr rfl, Or.inl rfl, Or.inl rfl, Or.inl rfl, Or.inl rfl, Or.inl rfl, Or.inl rfl, Or.inl rfl, trivial⟩
set_option maxRecDepth 20000 in
theorem c_O_putWorth (l : Launch) (E : zE) (M : zM) (S : zS) (hR : RX S M) (hO : ok S) (b : Nat) (hb : b < S.1 0) (y : Int) (k : Nat) (hk4 : k < 4) (hj : hJ S (psS S) (dA S (flS S)) M b) (ho : ∀ t, t < 11 → M.2 43 t = lN (OD S b y t)) : zK l sX E y_O_putWorth b_O_putWorth 15 none 3 69 [.ref (E.2.2 0), .int (iI (b : Int)), .int (iI (k : Int))] M (zPv (fun M2 => zJ (zJ M 3 0 (lN (wor S b y k / Nat.gcd (wor S b y k) (9 * allO S b y)))) 3 1 (lN ((9 * allO S b y) / Nat.gcd (wor S b y k) (9 * allO S b y))) = M2)) := by
  refine zK.of "OldBeams" rfl (by decide) (Nat.le_of_ble_eq_true rfl) ?_
  intro G hS hE hQ hL C
  subst hE
  subst hL
  show VJ G M 0 [some (.ref (G.2.1.2.2 0)), some (.int (iI (b : Int))), some (.int (iI (k : Int))), none, none, none, none, none, none, none, none, none, none, none, none] []
  refine r_lconst C (pc := 0) (v := 0) rfl d_O_putWorth_0 ?_
  refine r_lst3 C (pc := 1) rfl d_O_putWorth_1 ?_
  refine r_lconst C (pc := 2) (v := 0) rfl d_O_putWorth_2 ?_
  refine r_lst5 C (pc := 3) rfl d_O_putWorth_3 ?_
  refine r_iconst C (pc := 5) d_O_putWorth_5 ?_
  refine r_ist7 C (pc := 6) rfl d_O_putWorth_6 ?_
  exact l_O_putWorth_8 C hS M S hR hO b hb y k hk4 hj ho hQ 12 0 (by omega) (by omega)
