theorem zJ_fn {M : zM} {k i a : Nat} {x : Int64} (h : a ≠ k) : (zJ M k i x).2 a = M.2 a := funext fun b => zJ_ne h
theorem zI_fn {M : zM} {k i a : Nat} {x : Int} (h : a ≠ k) : (zI M k i x).1 a = M.1 a := funext fun b => zI_ne h
theorem rowJ {N : zM} {k j : Nat} {v : Int64} {f : Nat → Int64} (h : ∀ x, x < j → N.2 k x = f x) (hv : v = f j) : ∀ x, x < j + 1 → (zJ N k j v).2 k x = f x := by
  intro x hx
  by_cases e : x = j
  · subst e
    rw [zJ_same, hv]
  · rw [zJ_row e]
    exact h x (by omega)
theorem rowI {N : zM} {k j : Nat} {v : Int} {f : Nat → Int} (h : ∀ x, x < j → N.1 k x = f x) (hv : v = f j) : ∀ x, x < j + 1 → (zI N k j v).1 k x = f x := by
  intro x hx
  by_cases e : x = j
  · subst e
    rw [zI_same, hv]
  · rw [zI_row e]
    exact h x (by omega)
theorem lI_lN {z : Int} (h : 0 ≤ z) : lI z = lN z.toNat := by
  obtain ⟨n, rfl⟩ := Int.eq_ofNat_of_zero_le h
  rw [lI_nat, Int.toNat_natCast]
theorem oO_succ (S : zS) (b : Nat) (y : Int) (l : Nat) : oO S b y (l + 1) = if S.2 10 l 0 = (b : Int) ∧ S.2 10 l 3 ≤ y ∧ gcN (nxO S (oO S b y l) l) 11 ≠ 0 then fun t => nxO S (oO S b y l) l t / gcN (nxO S (oO S b y l) l) 11 else oO S b y l := rfl
theorem oQ_succ (S : zS) (b : Nat) (y : Int) (l : Nat) : oQ S b y (l + 1) = if S.2 10 l 0 = (b : Int) ∧ S.2 10 l 3 ≤ y ∧ gcN (nxO S (oO S b y l) l) 11 = 0 ∧ oQ S b y l = -900009 then (l : Int) else oQ S b y l := rfl
theorem lkN_succ (S : zS) (b l : Nat) : lkN S b (l + 1) = lkN S b l + (if S.2 10 l 0 = (b : Int) then 1 else 0) := rfl
-- odds: their bounds
theorem gcN_dvd (g : Nat → Nat) : ∀ (n k : Nat), k < n → gcN g n ∣ g k
  | 0, k, h => absurd h (Nat.not_lt_zero k)
  | n + 1, k, h => by
    unfold gcN
    rcases Nat.lt_or_ge k n with q | q
    · exact Nat.dvd_trans (Nat.gcd_dvd_left _ _) (gcN_dvd g n k q)
    · rw [show k = n by omega]
      exact Nat.gcd_dvd_right _ _
theorem gcN_zero (g : Nat → Nat) : ∀ n : Nat, gcN g n = 0 ↔ ∀ k, k < n → g k = 0
  | 0 => ⟨fun _ k h => absurd h (Nat.not_lt_zero k), fun _ => rfl⟩
  | n + 1 => by
    unfold gcN
    rw [Nat.gcd_eq_zero_iff, gcN_zero g n]
    constructor
    · rintro ⟨h1, h2⟩ k hk
      rcases Nat.lt_or_ge k n with q | q
      · exact h1 k q
      · rw [show k = n by omega]; exact h2
    · exact fun h => ⟨fun k hk => h k (by omega), h n (by omega)⟩
theorem gcN_le {g : Nat → Nat} {B : Nat} (h : ∀ k, k < 11 → g k ≤ B) : ∀ n : Nat, n ≤ 11 → gcN g n ≤ B
  | 0, _ => Nat.zero_le B
  | n + 1, hn => by
    have ih := gcN_le h n (by omega)
    unfold gcN
    rcases Nat.eq_zero_or_pos (g n) with q | q
    · rw [q, Nat.gcd_zero_right]; exact ih
    · exact Nat.le_trans (Nat.gcd_le_right _ q) (h n (by omega))
theorem cmS_le {S : zS} (hO : ok S) {k oc : Int} (hk : 0 ≤ k ∧ k < 4) {t : Nat} (ht : t < 11) : cmS S k oc t ≤ 9 := by
  have h := hO.2.2.2.2.2.2.2.2.2.1 k.toNat (by omega) t ht
  unfold cmS
  split <;> omega
theorem lkN_mono (S : zS) (b : Nat) {l m : Nat} (h : l ≤ m) : lkN S b l ≤ lkN S b m := by
  induction m with
  | zero => rw [show l = 0 by omega]; exact Nat.le_refl _
  | succ m ih =>
    rcases Nat.lt_or_ge l (m + 1) with q | q
    · have := ih (by omega)
      rw [lkN_succ]
      omega
    · rw [show l = m + 1 by omega]; exact Nat.le_refl _
theorem oO_le {S : zS} (hO : ok S) {b : Nat} (hb : b < 12) (y : Int) : ∀ l : Nat, l ≤ S.1 2 → ∀ t, t < 11 → oO S b y l t ≤ 99 * 9 ^ lkN S b l
  | 0, _, t, ht => by
    have h := (hO.2.2.2.2.2.2.2.2.1 b hb).1 t ht
    unfold oO lkN
    simp
    omega
  | l + 1, hl, t, ht => by
    have ih := oO_le hO hb y l (by omega) t ht
    have hlk := hO.2.2.2.2.2.2.2.2.2.2.1 l (by omega)
    unfold oO lkN
    by_cases h : S.2 10 l 0 = (b : Int) ∧ S.2 10 l 3 ≤ y ∧ gcN (nxO S (oO S b y l) l) 11 ≠ 0
    · rw [if_pos h, if_pos h.1, Nat.pow_succ]
      have h1 : nxO S (oO S b y l) l t ≤ (99 * 9 ^ lkN S b l) * 9 := Nat.mul_le_mul ih (cmS_le hO hlk.2.1 ht)
      have h2 := Nat.div_le_self (nxO S (oO S b y l) l t) (gcN (nxO S (oO S b y l) l) 11)
      have h3 : 99 * (9 ^ lkN S b l * 9) = 99 * 9 ^ lkN S b l * 9 := by rw [Nat.mul_assoc]
      show nxO S (oO S b y l) l t / gcN (nxO S (oO S b y l) l) 11 ≤ _
      omega
    · rw [if_neg h]
      have h1 : 99 * 9 ^ lkN S b l ≤ 99 * 9 ^ (lkN S b l + (if S.2 10 l 0 = (b : Int) then 1 else 0)) := Nat.mul_le_mul_left 99 (Nat.pow_le_pow_right (by decide) (by omega))
      exact Nat.le_trans ih h1
theorem oO_33 {S : zS} (hO : ok S) {b : Nat} (hb : b < 12) (y : Int) {l : Nat} (hl : l ≤ S.1 2) {t : Nat} (ht : t < 11) : oO S b y l t < 2 ^ 33 := by
  have h := oO_le hO hb y l hl t ht
  have h1 := lkN_mono S b hl
  have h2 := hO.2.2.2.2.2.2.2.2.2.2.2.1 b hb
  have h3 : 99 * 9 ^ lkN S b l ≤ 99 * 9 ^ 8 := Nat.mul_le_mul_left 99 (Nat.pow_le_pow_right (by decide) (by omega))
  have h4 : 99 * 9 ^ 8 < 2 ^ 33 := by decide
  omega
theorem oO_pos {S : zS} (hO : ok S) {b : Nat} (hb : b < 12) (y : Int) : ∀ l : Nat, ∃ t, t < 11 ∧ oO S b y l t ≠ 0
  | 0 => by
    obtain ⟨t, ht, h⟩ := (hO.2.2.2.2.2.2.2.2.1 b hb).2
    have h2 := (hO.2.2.2.2.2.2.2.2.1 b hb).1 t ht
    exact ⟨t, ht, by unfold oO; omega⟩
  | l + 1 => by
    unfold oO
    by_cases h : S.2 10 l 0 = (b : Int) ∧ S.2 10 l 3 ≤ y ∧ gcN (nxO S (oO S b y l) l) 11 ≠ 0
    · rw [if_pos h]
      have hz := (not_congr (gcN_zero (nxO S (oO S b y l) l) 11)).mp h.2.2
      obtain ⟨t, ht⟩ := Classical.not_forall.mp hz
      obtain ⟨h1, h2⟩ := Classical.not_imp.mp ht
      refine ⟨t, h1, fun q => ?_⟩
      have hd := gcN_dvd (nxO S (oO S b y l) l) 11 t h1
      have hp := Nat.div_pos (Nat.le_of_dvd (Nat.pos_of_ne_zero h2) hd) (Nat.pos_of_ne_zero h.2.2)
      have q : nxO S (oO S b y l) l t / gcN (nxO S (oO S b y l) l) 11 = 0 := q
      omega
    · rw [if_neg h]
      exact oO_pos hO hb y l
theorem oO_no {S : zS} {b : Nat} {y : Int} {l : Nat} (h : ¬ (S.2 10 l 0 = (b : Int) ∧ S.2 10 l 3 ≤ y)) : oO S b y (l + 1) = oO S b y l ∧ oQ S b y (l + 1) = oQ S b y l := by
  constructor
  · rw [oO_succ, if_neg (fun q => h ⟨q.1, q.2.1⟩)]
  · rw [oQ_succ, if_neg (fun q => h ⟨q.1, q.2.1⟩)]
theorem oO_yes {S : zS} {b : Nat} {y : Int} {l : Nat} (h1 : S.2 10 l 0 = (b : Int)) (h2 : S.2 10 l 3 ≤ y) (hg : gcN (nxO S (oO S b y l) l) 11 ≠ 0) : oO S b y (l + 1) = (fun t => nxO S (oO S b y l) l t / gcN (nxO S (oO S b y l) l) 11) ∧ oQ S b y (l + 1) = oQ S b y l := by
  constructor
  · show (if S.2 10 l 0 = (b : Int) ∧ S.2 10 l 3 ≤ y ∧ gcN (nxO S (oO S b y l) l) 11 ≠ 0 then fun t => nxO S (oO S b y l) l t / gcN (nxO S (oO S b y l) l) 11 else oO S b y l) = _
    rw [if_pos ⟨h1, h2, hg⟩]
  · rw [oQ_succ, if_neg (fun q => hg q.2.2.1)]
theorem oO_qu {S : zS} {b : Nat} {y : Int} {l : Nat} (h1 : S.2 10 l 0 = (b : Int)) (h2 : S.2 10 l 3 ≤ y) (hg : gcN (nxO S (oO S b y l) l) 11 = 0) : oO S b y (l + 1) = oO S b y l ∧ oQ S b y (l + 1) = (if oQ S b y l = -900009 then (l : Int) else oQ S b y l) := by
  constructor
  · rw [oO_succ, if_neg (fun q => q.2.2 hg)]
  · show (if S.2 10 l 0 = (b : Int) ∧ S.2 10 l 3 ≤ y ∧ gcN (nxO S (oO S b y l) l) 11 = 0 ∧ oQ S b y l = -900009 then (l : Int) else oQ S b y l) = _
    by_cases h : oQ S b y l = -900009
    · rw [if_pos ⟨h1, h2, hg, h⟩, if_pos h]
    · rw [if_neg (fun q => h q.2.2.2), if_neg h]
theorem oQ_rng (S : zS) (b : Nat) (y : Int) : ∀ l : Nat, oQ S b y l = -900009 ∨ (0 ≤ oQ S b y l ∧ oQ S b y l < (l : Int))
  | 0 => Or.inl rfl
  | l + 1 => by
    have ih := oQ_rng S b y l
    unfold oQ
    split <;> omega
set_option maxRecDepth 20000 in
theorem l_K_applyLook_83 {G : zG} (C : zC G b_K_applyLook "OldBeams$Looks" (some .boolean) 7 1 30) (hS : G.1 = sX) (M : zM) (k : Nat) (hk : k < 4) (oc : Int) (hoc : oc = 0 ∨ oc = 1) (tl : Nat → Int) (o9 nx : Nat → Nat) (htl : ∀ t, t < 11 → M.1 (35 + k) t = tl t ∧ 0 ≤ tl t ∧ tl t ≤ 9) (ho9 : ∀ t, t < 11 → M.2 43 t = lN (o9 t) ∧ o9 t < 2 ^ 33) (hnx : ∀ t, nx t = o9 t * (if oc = 1 then (tl t).toNat else 9 - (tl t).toNat)) (hB : ∀ t, t < 11 → nx t < 2 ^ 40) (hC : ∀ n, n ≤ 11 → gcN nx n < 2 ^ 40) (hg : gcN nx 11 ≠ 0) (hQ : G.2.2.1 = zPi (fun r M2 => r = zb (gcN nx 11 ≠ 0) ∧ M2.1 = M.1 ∧ (∀ a, a ≠ 43 → a ≠ 44 → M2.2 a = M.2 a) ∧ ∀ t, t < 11 → M2.2 43 t = lN (if gcN nx 11 ≠ 0 then nx t / gcN nx 11 else o9 t))) : ∀ (n : Nat) (j : Nat) (N : zM), (j ≤ 11) → (N.1 = M.1) → (∀ a, a ≠ 43 → a ≠ 44 → N.2 a = M.2 a) → (∀ x, x < 11 → N.2 44 x = lN (nx x)) → (∀ x, x < j → N.2 43 x = lN (nx x / gcN nx 11)) → (11 - j < n) → VJ G N 83 [some (.ref (zad G 2)), some (.int (iI (k : Int))), some (.int (iI oc)), some (.long (lN (gcN nx 11))), none, some (.int (iI (j : Int))), none] [] := by
  intro n
  induction n with
  | zero =>
    intro j N hj hN1 hN2 hN3 hN4 hn
    exact absurd hn (by omega)
  | succ n ih =>
    intro j N hj hN1 hN2 hN3 hN4 hn
    refine r_ild5 C (pc := 83) d_K_applyLook_83 ?_
    refine r_bipush C (pc := 85) (n := 11) rfl d_K_applyLook_85 ?_
    refine r_icmp_ge C (pc := 87) (tgt := 112) (by omega) (by omega) d_K_applyLook_87 (by decide) (fun c87 => ?_) (fun c87 => ?_)
    · refine r_iconst C (pc := 112) d_K_applyLook_112 ?_
      exact r_zret C (pc := 113) hQ (by first | exact Or.inl rfl | exact Or.inr rfl | exact zb_01 _ | assumption) (⟨zb_of1 hg, hN1, hN2, fun t ht => by rw [if_pos hg]; exact hN4 t (by omega)⟩) d_K_applyLook_113
    · have hb := hB j (by omega)
      have hc := hC 11 (by omega)
      refine r_ald0 C (pc := 90) d_K_applyLook_90 ?_
      refine gX_K_known C (pc := 91) hS k_166 d_K_applyLook_91 ?_
      refine r_ild5 C (pc := 94) d_K_applyLook_94 ?_
      refine r_ald0 C (pc := 96) d_K_applyLook_96 ?_
      refine gX_K_next C (pc := 97) hS k_168 d_K_applyLook_97 ?_
      refine r_ild5 C (pc := 100) d_K_applyLook_100 ?_
      refine X_laldN C (pc := 102) hS (j) (by omega) rfl (by decide) (by omega) (by decide) d_K_applyLook_102 ?_
      rw [hN3 j (by omega)]
      refine r_lld3 C (pc := 103) d_K_applyLook_103 ?_
      refine r_ldiv C (pc := 104) (lN_ne (Nat.pos_of_ne_zero hg) (by omega)) d_K_applyLook_104 ?_
      refine r_topl (pk_lDiv (by omega) (Nat.pos_of_ne_zero hg) (by omega)) ?_
      refine X_lastN C (pc := 105) hS (j) (by omega) rfl (by decide) (by omega) (by decide)  d_K_applyLook_105 ?_
      refine r_iinc5 C (pc := 106) rfl d_K_applyLook_106 ?_
      refine r_goto C (pc := 109) (tgt := 83) d_K_applyLook_109 (by decide) ?_
      exact ih (j + 1) _ (by omega) hN1 (fun a h1 h2 => (zJ_fn h1).trans (hN2 a h1 h2)) (fun x hx => (zJ_ne (by decide)).trans (hN3 x hx)) (rowJ hN4 rfl) (by omega)
set_option maxRecDepth 20000 in
theorem l_K_applyLook_5 {G : zG} (C : zC G b_K_applyLook "OldBeams$Looks" (some .boolean) 7 1 30) (hS : G.1 = sX) (M : zM) (k : Nat) (hk : k < 4) (oc : Int) (hoc : oc = 0 ∨ oc = 1) (tl : Nat → Int) (o9 nx : Nat → Nat) (htl : ∀ t, t < 11 → M.1 (35 + k) t = tl t ∧ 0 ≤ tl t ∧ tl t ≤ 9) (ho9 : ∀ t, t < 11 → M.2 43 t = lN (o9 t) ∧ o9 t < 2 ^ 33) (hnx : ∀ t, nx t = o9 t * (if oc = 1 then (tl t).toNat else 9 - (tl t).toNat)) (hB : ∀ t, t < 11 → nx t < 2 ^ 40) (hC : ∀ n, n ≤ 11 → gcN nx n < 2 ^ 40) (hQ : G.2.2.1 = zPi (fun r M2 => r = zb (gcN nx 11 ≠ 0) ∧ M2.1 = M.1 ∧ (∀ a, a ≠ 43 → a ≠ 44 → M2.2 a = M.2 a) ∧ ∀ t, t < 11 → M2.2 43 t = lN (if gcN nx 11 ≠ 0 then nx t / gcN nx 11 else o9 t))) : ∀ (n : Nat) (j : Nat) (N : zM), (j ≤ 11) → (N.1 = M.1) → (∀ a, a ≠ 44 → N.2 a = M.2 a) → (∀ x, x < j → N.2 44 x = lN (nx x)) → (11 - j < n) → VJ G N 5 [some (.ref (zad G 2)), some (.int (iI (k : Int))), some (.int (iI oc)), some (.long (lN (gcN nx j))), none, some (.int (iI (j : Int))), none] [] := by
  intro n
  induction n with
  | zero =>
    intro j N hj hN1 hN2 hN3 hn
    exact absurd hn (by omega)
  | succ n ih =>
    intro j N hj hN1 hN2 hN3 hn
    refine r_ild5 C (pc := 5) d_K_applyLook_5 ?_
    refine r_bipush C (pc := 7) (n := 11) rfl d_K_applyLook_7 ?_
    refine r_icmp_ge C (pc := 9) (tgt := 72) (by omega) (by omega) d_K_applyLook_9 (by decide) (fun c9 => ?_) (fun c9 => ?_)
    · have ej : j = 11 := by omega
      subst ej
      refine r_lld3 C (pc := 72) d_K_applyLook_72 ?_
      refine r_lconst C (pc := 73) (v := 0) rfl d_K_applyLook_73 ?_
      refine r_lcmp_ne C (pc := 74) (tgt := 80) d_K_applyLook_74 d_K_applyLook_75 (by decide) (fun c74 => ?_) (fun c74 => ?_)
      · have hg : gcN nx 11 ≠ 0 := fun q => c74 (by rw [q]; rfl)
        refine r_iconst C (pc := 80) d_K_applyLook_80 ?_
        refine r_ist5 C (pc := 81) rfl d_K_applyLook_81 ?_
        refine r_weak ?_ (l_K_applyLook_83 C hS M k hk oc hoc tl o9 nx htl ho9 hnx hB hC hg hQ 12 0 N (by omega) hN1 (fun a _ h2 => hN2 a h2) hN3 (fun x hx => absurd hx (Nat.not_lt_zero x)) (by omega))
        exact ⟨Or.inr rfl, Or.inr rfl, Or.inr rfl, Or.inr rfl, Or.inr rfl, Or.inr rfl, Or.inl rfl, trivial⟩
      · have hg : gcN nx 11 = 0 := (pk_lEQ (by have := hC 11 (by omega); omega) (by decide)).mp (c74.trans lN_0.symm)
        refine r_iconst C (pc := 78) d_K_applyLook_78 ?_
        exact r_zret C (pc := 79) hQ (by first | exact Or.inl rfl | exact Or.inr rfl | exact zb_01 _ | assumption) (⟨zb_of0 (fun q => q hg), hN1, fun a _ h2 => hN2 a h2, fun t ht => by rw [if_neg (fun q => q hg), hN2 43 (by decide)]; exact (ho9 t ht).1⟩) d_K_applyLook_79
    · have hb := hB j (by omega)
      have hc := hC j (by omega)
      have htj := htl j (by omega)
      have hoj := ho9 j (by omega)
      refine r_ald0 C (pc := 12) d_K_applyLook_12 ?_
      refine gX_K_tools C (pc := 13) hS k_158 d_K_applyLook_13 ?_
      refine r_ild1 C (pc := 16) d_K_applyLook_16 ?_
      refine X_toolsN C (pc := 17) hS (k) (by omega) (by omega) d_K_applyLook_17 ?_
      refine r_ild5 C (pc := 18) d_K_applyLook_18 ?_
      refine X_ialdN C (pc := 20) hS (j) (by omega) (shTr (by omega)) (by omega) (by omega) (by decide) d_K_applyLook_20 ?_
      rw [hN1, htj.1]
      refine r_ist6 C (pc := 21) rfl d_K_applyLook_21 ?_
      refine r_ald0 C (pc := 23) d_K_applyLook_23 ?_
      refine gX_K_next C (pc := 24) hS k_168 d_K_applyLook_24 ?_
      refine r_ild5 C (pc := 27) d_K_applyLook_27 ?_
      refine r_ald0 C (pc := 29) d_K_applyLook_29 ?_
      refine gX_K_known C (pc := 30) hS k_166 d_K_applyLook_30 ?_
      refine r_ild5 C (pc := 33) d_K_applyLook_33 ?_
      refine X_laldN C (pc := 35) hS (j) (by omega) rfl (by decide) (by omega) (by decide) d_K_applyLook_35 ?_
      rw [hN2 43 (by decide), hoj.1]
      refine r_ild2 C (pc := 36) d_K_applyLook_36 ?_
      refine r_iconst C (pc := 37) d_K_applyLook_37 ?_
      refine r_icmp_ne C (pc := 38) (tgt := 46) (by omega) (by omega) d_K_applyLook_38 (by decide) (fun c38 => ?_) (fun c38 => ?_)
      · refine r_bipush C (pc := 46) (n := 9) rfl d_K_applyLook_46 ?_
        refine r_ild6 C (pc := 48) d_K_applyLook_48 ?_
        refine r_isub C (pc := 50) d_K_applyLook_50 ?_
        refine r_i2l C (pc := 51) (by omega) d_K_applyLook_51 ?_
        refine r_lmul C (pc := 52) d_K_applyLook_52 ?_
        refine r_topl (y := lN (nx j)) (by first | rw [hnx, if_pos (by omega), lI_lN (by omega), lN_mul] | rw [hnx, if_neg (by omega), lI_lN (by omega), lN_mul, show (9 - tl j).toNat = 9 - (tl j).toNat by omega]) ?_
        refine X_lastN C (pc := 53) hS (j) (by omega) rfl (by decide) (by omega) (by decide)  d_K_applyLook_53 ?_
        refine r_lld3 C (pc := 54) d_K_applyLook_54 ?_
        refine r_ald0 C (pc := 55) d_K_applyLook_55 ?_
        refine gX_K_next C (pc := 56) hS k_168 d_K_applyLook_56 ?_
        refine r_ild5 C (pc := 59) d_K_applyLook_59 ?_
        refine X_laldN C (pc := 61) hS (j) (by omega) rfl (by decide) (by omega) (by decide) d_K_applyLook_61 ?_
        rw [zJ_same]
        refine call_Q_common C (pc := 62) hS (c_Q_common _ _ _ _ _ (by omega) (by omega)) k_464 (by decide) (Nat.le_of_ble_eq_true rfl) rfl d_K_applyLook_62 (kkL (fun r62 N62 h62 => ?_))
        obtain ⟨rfl, rfl⟩ := h62
        refine r_lst3 C (pc := 65) rfl d_K_applyLook_65 ?_
        refine r_iinc5 C (pc := 66) rfl d_K_applyLook_66 ?_
        refine r_goto C (pc := 69) (tgt := 5) d_K_applyLook_69 (by decide) ?_
        refine r_weak ?_ (ih (j + 1) _ (by omega) hN1 (fun a h1 => (zJ_fn h1).trans (hN2 a h1)) (rowJ hN3 rfl) (by omega))
        exact ⟨Or.inr rfl, Or.inr rfl, Or.inr rfl, Or.inr rfl, Or.inr rfl, Or.inr rfl, Or.inl rfl, trivial⟩
      · refine r_ild6 C (pc := 41) d_K_applyLook_41 ?_
        refine r_goto C (pc := 43) (tgt := 51) d_K_applyLook_43 (by decide) ?_
        refine r_i2l C (pc := 51) (by omega) d_K_applyLook_51 ?_
        refine r_lmul C (pc := 52) d_K_applyLook_52 ?_
        refine r_topl (y := lN (nx j)) (by first | rw [hnx, if_pos (by omega), lI_lN (by omega), lN_mul] | rw [hnx, if_neg (by omega), lI_lN (by omega), lN_mul, show (9 - tl j).toNat = 9 - (tl j).toNat by omega]) ?_
        refine X_lastN C (pc := 53) hS (j) (by omega) rfl (by decide) (by omega) (by decide)  d_K_applyLook_53 ?_
        refine r_lld3 C (pc := 54) d_K_applyLook_54 ?_
        refine r_ald0 C (pc := 55) d_K_applyLook_55 ?_
        refine gX_K_next C (pc := 56) hS k_168 d_K_applyLook_56 ?_
        refine r_ild5 C (pc := 59) d_K_applyLook_59 ?_
        refine X_laldN C (pc := 61) hS (j) (by omega) rfl (by decide) (by omega) (by decide) d_K_applyLook_61 ?_
        rw [zJ_same]
        refine call_Q_common C (pc := 62) hS (c_Q_common _ _ _ _ _ (by omega) (by omega)) k_464 (by decide) (Nat.le_of_ble_eq_true rfl) rfl d_K_applyLook_62 (kkL (fun r62 N62 h62 => ?_))
        obtain ⟨rfl, rfl⟩ := h62
        refine r_lst3 C (pc := 65) rfl d_K_applyLook_65 ?_
        refine r_iinc5 C (pc := 66) rfl d_K_applyLook_66 ?_
        refine r_goto C (pc := 69) (tgt := 5) d_K_applyLook_69 (by decide) ?_
        refine r_weak ?_ (ih (j + 1) _ (by omega) hN1 (fun a h1 => (zJ_fn h1).trans (hN2 a h1)) (rowJ hN3 rfl) (by omega))
        exact ⟨Or.inr rfl, Or.inr rfl, Or.inr rfl, Or.inr rfl, Or.inr rfl, Or.inr rfl, Or.inl rfl, trivial⟩
set_option maxRecDepth 20000 in
theorem c_K_applyLook (l : Launch) (E : zE) (M : zM) (k : Nat) (hk : k < 4) (oc : Int) (hoc : oc = 0 ∨ oc = 1) (tl : Nat → Int) (o9 nx : Nat → Nat) (htl : ∀ t, t < 11 → M.1 (35 + k) t = tl t ∧ 0 ≤ tl t ∧ tl t ≤ 9) (ho9 : ∀ t, t < 11 → M.2 43 t = lN (o9 t) ∧ o9 t < 2 ^ 33) (hnx : ∀ t, nx t = o9 t * (if oc = 1 then (tl t).toNat else 9 - (tl t).toNat)) : zK l sX E y_K_applyLook b_K_applyLook 7 (some .boolean) 1 30 [.ref (E.2.2 2), .int (iI (k : Int)), .int (iI oc)] M (zPi (fun r M2 => r = zb (gcN nx 11 ≠ 0) ∧ M2.1 = M.1 ∧ (∀ a, a ≠ 43 → a ≠ 44 → M2.2 a = M.2 a) ∧ ∀ t, t < 11 → M2.2 43 t = lN (if gcN nx 11 ≠ 0 then nx t / gcN nx 11 else o9 t))) := by
  refine zK.of "OldBeams$Looks" rfl (by decide) (Nat.le_of_ble_eq_true rfl) ?_
  intro G hS hE hQ hL C
  subst hE
  subst hL
  show VJ G M 0 [some (.ref (G.2.1.2.2 2)), some (.int (iI (k : Int))), some (.int (iI oc)), none, none, none, none] []
  have hB : ∀ t, t < 11 → nx t < 2 ^ 40 := fun t ht => by
    have h1 := (ho9 t ht).2
    have h3 := (htl t ht).2
    have h2 : o9 t * (if oc = 1 then (tl t).toNat else 9 - (tl t).toNat) ≤ o9 t * 9 := Nat.mul_le_mul_left _ (by split <;> omega)
    rw [hnx]
    omega
  have hC : ∀ n, n ≤ 11 → gcN nx n < 2 ^ 40 := fun n hn => Nat.lt_of_le_of_lt (gcN_le (B := 2 ^ 40 - 1) (fun t ht => by have := hB t ht; omega) n hn) (by decide)
  refine r_lconst C (pc := 0) (v := 0) rfl d_K_applyLook_0 ?_
  refine r_lst3 C (pc := 1) rfl d_K_applyLook_1 ?_
  refine r_iconst C (pc := 2) d_K_applyLook_2 ?_
  refine r_ist5 C (pc := 3) rfl d_K_applyLook_3 ?_
  exact l_K_applyLook_5 C hS M k hk oc hoc tl o9 nx htl ho9 hnx hB hC hQ 12 0 M (by omega) rfl (fun _ _ => rfl) (fun x hx => absurd hx (Nat.not_lt_zero x)) (by omega)
set_option maxRecDepth 20000 in
theorem l_K_reckonOdds_35 {G : zG} (C : zC G b_K_reckonOdds "OldBeams$Looks" (some .int) 6 2 56) (hS : G.1 = sX) (M : zM) (S : zS) (hR : RX S M) (hO : ok S) (b : Nat) (hb : b < S.1 0) (y : Int) (hy : 0 ≤ y ∧ y ≤ 500) (hQ : G.2.2.1 = zPi (fun r M2 => r = oQ S b y (S.1 2) ∧ M2.1 = M.1 ∧ (∀ a, a ≠ 43 → a ≠ 44 → M2.2 a = M.2 a) ∧ ∀ t, t < 11 → M2.2 43 t = lN (OD S b y t))) : ∀ (n : Nat) (l : Nat) (N : zM), (l ≤ S.1 2) → (N.1 = M.1) → (∀ a, a ≠ 43 → a ≠ 44 → N.2 a = M.2 a) → (∀ t, t < 11 → N.2 43 t = lN (oO S b y l t)) → (S.1 2 - l < n) → VJ G N 35 [some (.ref (zad G 2)), some (.int (iI (b : Int))), some (.int (iI y)), some (.int (iI (oQ S b y l))), some (.int (iI (l : Int))), none] [] := by
  intro n
  induction n with
  | zero =>
    intro l N hl hN1 hN2 hN3 hn
    exact absurd hn (by omega)
  | succ n ih =>
    intro l N hl hN1 hN2 hN3 hn
    have h12 := hO.1
    have hcnt : M.1 2 6 = (S.1 2 : Int) := hR.1.2.2.1
    have hqr := oQ_rng S b y l
    refine r_ild4 C (pc := 35) d_K_reckonOdds_35 ?_
    refine r_ald0 C (pc := 37) d_K_reckonOdds_37 ?_
    refine gX_K_lookCount C (pc := 38) hS k_164 d_K_reckonOdds_38 ?_
    rw [hN1, hcnt]
    refine r_icmp_ge C (pc := 41) (tgt := 109) (by omega) (by omega) d_K_reckonOdds_41 (by decide) (fun c41 => ?_) (fun c41 => ?_)
    · refine r_ild3 C (pc := 109) d_K_reckonOdds_109 ?_
      exact r_iret C (pc := 110) hQ (⟨by rw [show l = S.1 2 by omega], hN1, hN2, fun t ht => by unfold OD; rw [hN3 t ht, show l = S.1 2 by omega]⟩) d_K_reckonOdds_110
    · have hlr := hR.2.2.2.2.2.2.2.2.2.2.1 l (by omega)
      have hlo := hO.2.2.2.2.2.2.2.2.2.2.1 l (by omega)
      obtain ⟨k, hk⟩ : ∃ k : Nat, S.2 10 l 1 = (k : Int) := ⟨(S.2 10 l 1).toNat, by omega⟩
      refine r_ald0 C (pc := 44) d_K_reckonOdds_44 ?_
      refine gX_K_lookBeam C (pc := 45) hS k_160 d_K_reckonOdds_45 ?_
      refine r_ild4 C (pc := 48) d_K_reckonOdds_48 ?_
      refine X_ialdN C (pc := 50) hS (l) (by omega) rfl (by decide) (by omega) (by decide) d_K_reckonOdds_50 ?_
      rw [hN1, hlr.1]
      refine r_ild1 C (pc := 51) d_K_reckonOdds_51 ?_
      refine r_icmp_ne C (pc := 52) (tgt := 103) (by omega) (by omega) d_K_reckonOdds_52 (by decide) (fun c52 => ?_) (fun c52 => ?_)
      · obtain ⟨e1, e2⟩ := oO_no (S := S) (b := b) (y := y) (l := l) (fun q => c52 q.1)
        have a3 := hN3
        refine r_iinc4 C (pc := 103) rfl d_K_reckonOdds_103 ?_
        refine r_goto C (pc := 106) (tgt := 35) d_K_reckonOdds_106 (by decide) ?_
        refine r_weak ?_ (ih (l + 1) _ (by omega) hN1 hN2 (fun t ht => by rw [e1]; exact a3 t ht) (by omega))
        exact ⟨Or.inr rfl, Or.inr rfl, Or.inr rfl, Or.inr (by rw [e2]), Or.inr rfl, Or.inl rfl, trivial⟩
      · refine r_ald0 C (pc := 55) d_K_reckonOdds_55 ?_
        refine gX_K_lookYear C (pc := 56) hS k_163 d_K_reckonOdds_56 ?_
        refine r_ild4 C (pc := 59) d_K_reckonOdds_59 ?_
        refine X_ialdN C (pc := 61) hS (l) (by omega) rfl (by decide) (by omega) (by decide) d_K_reckonOdds_61 ?_
        rw [hN1, hlr.2.2.2]
        refine r_ild2 C (pc := 62) d_K_reckonOdds_62 ?_
        refine r_icmp_le C (pc := 63) (tgt := 69) (by omega) (by omega) d_K_reckonOdds_63 (by decide) (fun c63 => ?_) (fun c63 => ?_)
        · refine r_ald0 C (pc := 69) d_K_reckonOdds_69 ?_
          refine r_ald0 C (pc := 70) d_K_reckonOdds_70 ?_
          refine gX_K_lookTool C (pc := 71) hS k_161 d_K_reckonOdds_71 ?_
          refine r_ild4 C (pc := 74) d_K_reckonOdds_74 ?_
          refine X_ialdN C (pc := 76) hS (l) (by omega) rfl (by decide) (by omega) (by decide) d_K_reckonOdds_76 ?_
          rw [hN1, hlr.2.1, hk]
          refine r_ald0 C (pc := 77) d_K_reckonOdds_77 ?_
          refine gX_K_lookOutcome C (pc := 78) hS k_162 d_K_reckonOdds_78 ?_
          refine r_ild4 C (pc := 81) d_K_reckonOdds_81 ?_
          refine X_ialdN C (pc := 83) hS (l) (by omega) rfl (by decide) (by omega) (by decide) d_K_reckonOdds_83 ?_
          rw [hN1, hlr.2.2.1]
          refine call_K_applyLook C (pc := 84) hS (c_K_applyLook _ _ N k (by omega) _ hlo.2.2.1 (fun t => S.2 9 k t) (oO S b y l) (nxO S (oO S b y l) l) (fun t ht => ⟨by rw [hN1]; exact hR.2.2.2.2.2.2.2.2.2.1 k (by omega) t ht, hO.2.2.2.2.2.2.2.2.2.1 k (by omega) t ht⟩) (fun t ht => ⟨hN3 t ht, oO_33 hO (by omega) y (by omega) ht⟩) (fun t => by unfold nxO cmS; rw [hk, Int.toNat_natCast])) k_460 (by decide) (Nat.le_of_ble_eq_true rfl) rfl d_K_reckonOdds_84 (kkI (fun r84 N84 h84 => ?_))
          obtain ⟨rfl, a1, a2, a3⟩ := h84
          have hN1 : N84.1 = M.1 := a1.trans hN1
          have hN2 : ∀ a, a ≠ 43 → a ≠ 44 → N84.2 a = M.2 a := fun a h1 h2 => (a2 a h1 h2).trans (hN2 a h1 h2)
          refine r_ist5 C (pc := 87) rfl d_K_reckonOdds_87 ?_
          refine r_ild5 C (pc := 89) d_K_reckonOdds_89 ?_
          refine r_ifneB C (pc := 91) (tgt := 103) d_K_reckonOdds_91 (by decide) (fun c91 => ?_) (fun c91 => ?_)
          · obtain ⟨e1, e2⟩ := oO_yes (S := S) (b := b) (y := y) (l := l) c52 c63 c91
            simp only [if_pos c91] at a3
            refine r_iinc4 C (pc := 103) rfl d_K_reckonOdds_103 ?_
            refine r_goto C (pc := 106) (tgt := 35) d_K_reckonOdds_106 (by decide) ?_
            refine r_weak ?_ (ih (l + 1) _ (by omega) hN1 hN2 (fun t ht => by rw [e1]; exact a3 t ht) (by omega))
            exact ⟨Or.inr rfl, Or.inr rfl, Or.inr rfl, Or.inr (by rw [e2]), Or.inr rfl, Or.inl rfl, trivial⟩
          · have hg0 : gcN (nxO S (oO S b y l) l) 11 = 0 := Classical.not_not.mp c91
            obtain ⟨e1, e2⟩ := oO_qu (S := S) (b := b) (y := y) (l := l) c52 c63 hg0
            simp only [if_neg c91] at a3
            refine r_ild3 C (pc := 94) d_K_reckonOdds_94 ?_
            refine r_ldc C (pc := 95) (z := (-900009)) k_459 rfl d_K_reckonOdds_95 ?_
            refine r_icmp_ne C (pc := 97) (tgt := 103) (by omega) (by omega) d_K_reckonOdds_97 (by decide) (fun c97 => ?_) (fun c97 => ?_)
            · rw [if_neg c97] at e2
              refine r_iinc4 C (pc := 103) rfl d_K_reckonOdds_103 ?_
              refine r_goto C (pc := 106) (tgt := 35) d_K_reckonOdds_106 (by decide) ?_
              refine r_weak ?_ (ih (l + 1) _ (by omega) hN1 hN2 (fun t ht => by rw [e1]; exact a3 t ht) (by omega))
              exact ⟨Or.inr rfl, Or.inr rfl, Or.inr rfl, Or.inr (by rw [e2]), Or.inr rfl, Or.inl rfl, trivial⟩
            · rw [if_pos c97] at e2
              refine r_ild4 C (pc := 100) d_K_reckonOdds_100 ?_
              refine r_ist3 C (pc := 102) rfl d_K_reckonOdds_102 ?_
              refine r_iinc4 C (pc := 103) rfl d_K_reckonOdds_103 ?_
              refine r_goto C (pc := 106) (tgt := 35) d_K_reckonOdds_106 (by decide) ?_
              refine r_weak ?_ (ih (l + 1) _ (by omega) hN1 hN2 (fun t ht => by rw [e1]; exact a3 t ht) (by omega))
              exact ⟨Or.inr rfl, Or.inr rfl, Or.inr rfl, Or.inr (by rw [e2]), Or.inr rfl, Or.inl rfl, trivial⟩
        · obtain ⟨e1, e2⟩ := oO_no (S := S) (b := b) (y := y) (l := l) (fun q => c63 q.2)
          have a3 := hN3
          refine r_goto C (pc := 66) (tgt := 103) d_K_reckonOdds_66 (by decide) ?_
          refine r_iinc4 C (pc := 103) rfl d_K_reckonOdds_103 ?_
          refine r_goto C (pc := 106) (tgt := 35) d_K_reckonOdds_106 (by decide) ?_
          refine r_weak ?_ (ih (l + 1) _ (by omega) hN1 hN2 (fun t ht => by rw [e1]; exact a3 t ht) (by omega))
          exact ⟨Or.inr rfl, Or.inr rfl, Or.inr rfl, Or.inr (by rw [e2]), Or.inr rfl, Or.inl rfl, trivial⟩
set_option maxRecDepth 20000 in
theorem l_K_reckonOdds_2 {G : zG} (C : zC G b_K_reckonOdds "OldBeams$Looks" (some .int) 6 2 56) (hS : G.1 = sX) (M : zM) (S : zS) (hR : RX S M) (hO : ok S) (b : Nat) (hb : b < S.1 0) (y : Int) (hy : 0 ≤ y ∧ y ≤ 500) (hQ : G.2.2.1 = zPi (fun r M2 => r = oQ S b y (S.1 2) ∧ M2.1 = M.1 ∧ (∀ a, a ≠ 43 → a ≠ 44 → M2.2 a = M.2 a) ∧ ∀ t, t < 11 → M2.2 43 t = lN (OD S b y t))) : ∀ (n : Nat) (j : Nat) (N : zM), (j ≤ 11) → (N.1 = M.1) → (∀ a, a ≠ 43 → a ≠ 44 → N.2 a = M.2 a) → (∀ x, x < j → N.2 43 x = lN (oO S b y 0 x)) → (11 - j < n) → VJ G N 2 [some (.ref (zad G 2)), some (.int (iI (b : Int))), some (.int (iI y)), some (.int (iI (j : Int))), none, none] [] := by
  intro n
  induction n with
  | zero =>
    intro j N hj hN1 hN2 hN3 hn
    exact absurd hn (by omega)
  | succ n ih =>
    intro j N hj hN1 hN2 hN3 hn
    have h12 := hO.1
    refine r_ild3 C (pc := 2) d_K_reckonOdds_2 ?_
    refine r_bipush C (pc := 3) (n := 11) rfl d_K_reckonOdds_3 ?_
    refine r_icmp_ge C (pc := 5) (tgt := 29) (by omega) (by omega) d_K_reckonOdds_5 (by decide) (fun c5 => ?_) (fun c5 => ?_)
    · refine r_ldc C (pc := 29) (z := (-900009)) k_459 rfl d_K_reckonOdds_29 ?_
      refine r_ist3 C (pc := 31) rfl d_K_reckonOdds_31 ?_
      refine r_iconst C (pc := 32) d_K_reckonOdds_32 ?_
      refine r_ist4 C (pc := 33) rfl d_K_reckonOdds_33 ?_
      exact l_K_reckonOdds_35 C hS M S hR hO b hb y hy hQ (S.1 2 + 1) 0 N (by omega) hN1 hN2 (fun t ht => hN3 t (by omega)) (by omega)
    · have hw := hR.2.2.2.2.2.2.2.2.1 b (by omega) j (by omega)
      have hw2 := (hO.2.2.2.2.2.2.2.2.1 b (by omega)).1 j (by omega)
      refine r_ald0 C (pc := 8) d_K_reckonOdds_8 ?_
      refine gX_K_known C (pc := 9) hS k_166 d_K_reckonOdds_9 ?_
      refine r_ild3 C (pc := 12) d_K_reckonOdds_12 ?_
      refine r_ald0 C (pc := 13) d_K_reckonOdds_13 ?_
      refine gX_K_weights C (pc := 14) hS k_156 d_K_reckonOdds_14 ?_
      refine r_ild1 C (pc := 17) d_K_reckonOdds_17 ?_
      refine X_weightsN C (pc := 18) hS (b) (by omega) (by omega) d_K_reckonOdds_18 ?_
      refine r_ild3 C (pc := 19) d_K_reckonOdds_19 ?_
      refine X_ialdN C (pc := 20) hS (j) (by omega) (shWr (by omega)) (by omega) (by omega) (by decide) d_K_reckonOdds_20 ?_
      rw [hN1, hw]
      refine r_i2l C (pc := 21) (by omega) d_K_reckonOdds_21 ?_
      refine X_lastN C (pc := 22) hS (j) (by omega) rfl (by decide) (by omega) (by decide)  d_K_reckonOdds_22 ?_
      refine r_iinc3 C (pc := 23) rfl d_K_reckonOdds_23 ?_
      refine r_goto C (pc := 26) (tgt := 2) d_K_reckonOdds_26 (by decide) ?_
      exact ih (j + 1) _ (by omega) hN1 (fun a h1 h2 => (zJ_fn h1).trans (hN2 a h1 h2)) (rowJ hN3 (lI_lN (by omega))) (by omega)
set_option maxRecDepth 20000 in
theorem c_K_reckonOdds (l : Launch) (E : zE) (M : zM) (S : zS) (hR : RX S M) (hO : ok S) (b : Nat) (hb : b < S.1 0) (y : Int) (hy : 0 ≤ y ∧ y ≤ 500) : zK l sX E y_K_reckonOdds b_K_reckonOdds 6 (some .int) 2 56 [.ref (E.2.2 2), .int (iI (b : Int)), .int (iI y)] M (zPi (fun r M2 => r = oQ S b y (S.1 2) ∧ M2.1 = M.1 ∧ (∀ a, a ≠ 43 → a ≠ 44 → M2.2 a = M.2 a) ∧ ∀ t, t < 11 → M2.2 43 t = lN (OD S b y t))) := by
  refine zK.of "OldBeams$Looks" rfl (by decide) (Nat.le_of_ble_eq_true rfl) ?_
  intro G hS hE hQ hL C
  subst hE
  subst hL
  show VJ G M 0 [some (.ref (G.2.1.2.2 2)), some (.int (iI (b : Int))), some (.int (iI y)), none, none, none] []
  refine r_iconst C (pc := 0) d_K_reckonOdds_0 ?_
  refine r_ist3 C (pc := 1) rfl d_K_reckonOdds_1 ?_
  exact l_K_reckonOdds_2 C hS M S hR hO b hb y hy hQ 12 0 M (by omega) rfl (fun _ _ _ => rfl) (fun x hx => absurd hx (Nat.not_lt_zero x)) (by omega)
