-- a fall that is tried: who has fallen by then, and who is next (as many as there are beams: nobody)
def tS (S : zS) (ps : Nat → Bool) (sh : Nat → Int) (b : Nat) : Nat → (Nat → Bool) × Nat
  | 0 => (flS S, b)
  | k + 1 => (fun i => (tS S ps sh b k).1 i || decide (i = (tS S ps sh b k).2), FN S ps (dA S (fun i => (tS S ps sh b k).1 i || decide (i = (tS S ps sh b k).2))) sh)
theorem tS_succ (S : zS) (ps : Nat → Bool) (sh : Nat → Int) (b k : Nat) : tS S ps sh b (k + 1) = (fun i => (tS S ps sh b k).1 i || decide (i = (tS S ps sh b k).2), FN S ps (dA S (fun i => (tS S ps sh b k).1 i || decide (i = (tS S ps sh b k).2))) sh) := rfl
def TM (S : zS) (ps : Nat → Bool) (sh : Nat → Int) (b : Nat) : Nat := fsN (fun k => decide (S.1 0 ≤ (tS S ps sh b k).2)) 13
theorem dn_fal (S : zS) (f : Nat → Bool) : ∀ (k j : Nat), j < k → f j = true → dn S f k j = true
  | 0, j, h, _ => absurd h (Nat.not_lt_zero j)
  | k + 1, j, h, hf => by
    rw [dn_succ]
    by_cases e : j = k
    · subst e
      rw [if_pos rfl, hf]
      rfl
    · rw [if_neg e]
      exact dn_fal S f k j (by omega) hf
theorem dcnt_put (f : Nat → Bool) {x : Nat} (hf : f x = false) : ∀ n : Nat, dcnt (fun i => f i || decide (i = x)) n = dcnt f n + (if x < n then 1 else 0)
  | 0 => by simp [dcnt]
  | n + 1 => by
    have ih := dcnt_put f hf n
    rw [dcnt_succ, dcnt_succ, ih]
    by_cases e : n = x
    · subst e
      rw [hf]
      simp
    · by_cases q : x < n
      · rw [if_pos q, if_pos (show x < n + 1 by omega)]
        simp only [e, decide_false, Bool.or_false]
        omega
      · rw [if_neg q, if_neg (show ¬ x < n + 1 by omega)]
        simp only [e, decide_false, Bool.or_false]
        omega
theorem dcnt_le (f : Nat → Bool) : ∀ n : Nat, dcnt f n ≤ n
  | 0 => Nat.le_refl 0
  | n + 1 => by
    have ih := dcnt_le f n
    rw [dcnt_succ]
    split <;> omega
theorem dcnt_all (f : Nat → Bool) : ∀ n : Nat, dcnt f n = n → ∀ j, j < n → f j = true
  | 0, _, j, hj => absurd hj (Nat.not_lt_zero j)
  | n + 1, h, j, hj => by
    have hl := dcnt_le f n
    rw [dcnt_succ] at h
    split at h
    · rename_i h1
      rcases Nat.lt_or_ge j n with q | q
      · exact dcnt_all f n (by omega) j q
      · rw [show j = n by omega]; exact h1
    · omega
theorem FN_lt {S : zS} {ps dw : Nat → Bool} {sh : Nat → Int} (h : FN S ps dw sh < S.1 0) : dw (FN S ps dw sh) = false := by
  have := fsN_yes _ _ h
  simp only [Bool.and_eq_true, Bool.not_eq_true'] at this
  exact this.1
theorem tS_new {S : zS} {ps : Nat → Bool} {sh : Nat → Int} {b : Nat} (hb : dA S (flS S) b = false) (hbn : b < S.1 0) : ∀ k : Nat, (tS S ps sh b k).2 < S.1 0 → (tS S ps sh b k).1 (tS S ps sh b k).2 = false
  | 0, h => by
    show flS S b = false
    exact Bool.eq_false_iff.mpr (fun q => by rw [show dA S (flS S) b = true from dn_fal S _ _ b hbn q] at hb; cases hb)
  | k + 1, h => by
    have e : dA S (tS S ps sh b (k + 1)).1 (tS S ps sh b (k + 1)).2 = false := FN_lt h
    exact Bool.eq_false_iff.mpr (fun q => by rw [show dA S (tS S ps sh b (k + 1)).1 (tS S ps sh b (k + 1)).2 = true from dn_fal S _ _ _ h q] at e; cases e)
theorem tS_cnt {S : zS} {ps : Nat → Bool} {sh : Nat → Int} {b : Nat} (hb : dA S (flS S) b = false) (hbn : b < S.1 0) : ∀ k : Nat, (∀ j, j < k → (tS S ps sh b j).2 < S.1 0) → k ≤ dcnt (tS S ps sh b k).1 (S.1 0)
  | 0, _ => Nat.zero_le _
  | k + 1, h => by
    have ih := tS_cnt (ps := ps) (sh := sh) hb hbn k (fun j hj => h j (by omega))
    have hk := h k (by omega)
    show k + 1 ≤ dcnt (fun i => (tS S ps sh b k).1 i || decide (i = (tS S ps sh b k).2)) (S.1 0)
    rw [dcnt_put _ (tS_new hb hbn k hk), if_pos hk]
    omega
theorem tS_end {S : zS} {ps : Nat → Bool} {sh : Nat → Int} {b : Nat} (hO : ok S) (hb : dA S (flS S) b = false) (hbn : b < S.1 0) (h : ∀ j, j < 12 → (tS S ps sh b j).2 < S.1 0) : S.1 0 ≤ (tS S ps sh b 12).2 := by
  have hn := hO.n
  have hc := tS_cnt (ps := ps) (sh := sh) hb hbn 12 h
  have hl := dcnt_le (tS S ps sh b 12).1 (S.1 0)
  have ha := dcnt_all (tS S ps sh b 12).1 (S.1 0) (by omega)
  refine Nat.le_of_not_lt (fun q => ?_)
  have e := tS_new hb hbn 12 q
  rw [ha _ q] at e
  cases e
theorem tS_out {S : zS} {ps : Nat → Bool} {sh : Nat → Int} {b : Nat} (hO : ok S) {i : Nat} (h1 : S.1 0 ≤ i) (h2 : i < 12) : ∀ k : Nat, (∀ j, j < k → (tS S ps sh b j).2 < S.1 0) → (tS S ps sh b k).1 i = false
  | 0, _ => fl_out hO h1 h2
  | k + 1, h => by
    show ((tS S ps sh b k).1 i || decide (i = (tS S ps sh b k).2)) = false
    rw [tS_out hO h1 h2 k (fun j hj => h j (by omega))]
    have := h k (by omega)
    simp
    omega
theorem TM_at {S : zS} {ps : Nat → Bool} {sh : Nat → Int} {b k : Nat} (hk : k ≤ 12) (h : S.1 0 ≤ (tS S ps sh b k).2) (hl : ∀ j, j < k → (tS S ps sh b j).2 < S.1 0) : TM S ps sh b = k := fsN_at (by simpa using h) (fun j hj => by have := hl j hj; simp; omega) 13 (by omega)
/-- nothing but what beams reckon, the fall's row and what is down behind it has changed -/
def tX (M N : zM) : Prop := (∀ a i, ¬ (45 ≤ a ∧ (a - 45) % 7 = 0 ∧ i = 12) → ¬ (a = 1 ∧ i = 14) → a ≠ 7 → N.1 a i = M.1 a i) ∧ ∀ a, a < 45 ∨ (a - 45) % 7 = 4 → N.2 a = M.2 a
theorem tX.rf (M : zM) : tX M M := ⟨fun _ _ _ _ _ => rfl, fun _ _ => rfl⟩
theorem tX.tb {M N O : zM} (h : tX M N) (g : bX N O) : tX M O := ⟨fun a i q q1 q2 => (g.1 a i q).trans (h.1 a i q q1 q2), fun a q => (g.2 a q).trans (h.2 a q)⟩
theorem RXt {S : zS} {M N : zM} (h : RX S M) (g : tX M N) : RX S N := by
  obtain ⟨g1, g2⟩ := g
  obtain ⟨⟨n0, n1, n2, n3⟩, hk, hb, hb2, ⟨m, hm⟩, hl, hp, ⟨m2, hm2⟩, hw, ht, hlk, hpr⟩ := h
  refine ⟨⟨by rw [g1 1 2 (by omega) (by omega) (by omega)]; exact n0, by rw [g1 1 8 (by omega) (by omega) (by omega)]; exact n1, by rw [g1 2 6 (by omega) (by omega) (by omega)]; exact n2, by rw [g1 1 12 (by omega) (by omega) (by omega)]; exact n3⟩, fun k h1 w h2 => by rw [g1 _ _ (by omega) (by omega) (by omega)]; exact hk k h1 w h2, fun b h1 => ?_, fun b h1 => ⟨by rw [g1 _ _ (by omega) (by omega) (by omega)]; exact (hb2 b h1).1, fun x hx => by rw [g2 _ (by omega)]; exact (hb2 b h1).2 x hx⟩, ⟨m, by rw [g1 1 3 (by omega) (by omega) (by omega)]; exact hm⟩, fun l h1 => ?_, fun p h1 => ?_, ⟨m2, by rw [g1 1 13 (by omega) (by omega) (by omega)]; exact hm2⟩, fun b h1 t h2 => by rw [g1 _ _ (by omega) (by omega) (by omega)]; exact hw b h1 t h2, fun k h1 t h2 => by rw [g1 _ _ (by omega) (by omega) (by omega)]; exact ht k h1 t h2, fun l h1 => ?_, by rw [g1 5 0 (by omega) (by omega) (by omega), g1 5 1 (by omega) (by omega) (by omega)]; exact hpr⟩
  · rw [g1 _ 0 (by omega) (by omega) (by omega), g1 _ 1 (by omega) (by omega) (by omega), g1 _ 2 (by omega) (by omega) (by omega), g1 _ 3 (by omega) (by omega) (by omega)]
    refine ⟨(hb b h1).1, fun s hs => ?_⟩
    rw [g1 (45 + 7 * b + 1) s (by omega) (by omega) (by omega), g1 (45 + 7 * b + 2) s (by omega) (by omega) (by omega), g1 (45 + 7 * b + 3) s (by omega) (by omega) (by omega)]
    exact (hb b h1).2 s hs
  · rw [g1 14 l (by omega) (by omega) (by omega), g1 15 l (by omega) (by omega) (by omega), g1 16 l (by omega) (by omega) (by omega), g1 17 l (by omega) (by omega) (by omega)]
    exact hl l h1
  · rw [g1 18 p (by omega) (by omega) (by omega), g1 19 p (by omega) (by omega) (by omega), g1 20 p (by omega) (by omega) (by omega)]
    exact hp p h1
  · rw [g1 39 l (by omega) (by omega) (by omega), g1 40 l (by omega) (by omega) (by omega), g1 41 l (by omega) (by omega) (by omega), g1 42 l (by omega) (by omega) (by omega)]
    exact hlk l h1
set_option maxRecDepth 20000 in
theorem l_F_tryFall_12 {G : zG} (C : zC G b_F_tryFall "OldBeams$Frame" (some .int) 7 5 128) (hS : G.1 = sX) (M : zM) (S : zS) (hR : RX S M) (hO : ok S) (b : Nat) (hb : b < S.1 0) (hbd : dA S (flS S) b = false) (sh : Nat → Int) (hsh : ∀ b, b < S.1 0 → M.1 6 b = sh b ∧ 0 ≤ sh b ∧ sh b ≤ 10) (hQ : G.2.2.1 = zPi (fun r M2 => r = (TM S (psS S) sh b : Int) ∧ tX M M2 ∧ (∀ j, j < TM S (psS S) sh b → M2.1 7 j = ((tS S (psS S) sh b j).2 : Int)) ∧ (∃ w : Nat, M2.1 1 14 = (w : Int) ∧ w < 4096 ∧ ∀ i, i < 12 → w.testBit i = if i < S.1 0 then dA S (tS S (psS S) sh b (TM S (psS S) sh b)).1 i else false))) : ∀ (n : Nat) (k m : Nat) (N : zM), (k ≤ 12) → (∀ j, j < k → (tS S (psS S) sh b j).2 < S.1 0) → (tX M N) → (m < 4096) → (∀ i, i < 12 → m.testBit i = (tS S (psS S) sh b k).1 i) → (∀ j, j < k → N.1 7 j = ((tS S (psS S) sh b j).2 : Int)) → (0 < k → (∃ w : Nat, N.1 1 14 = (w : Int) ∧ w < 4096 ∧ ∀ i, i < 12 → w.testBit i = if i < S.1 0 then dA S (tS S (psS S) sh b k).1 i else false)) → (12 - k < n) → VJ G N 12 [some (.ref (zad G 1)), some (.int (iI (b : Int))), some (.ref (zad G 6)), some (.ref (zad G 7)), some (.int (iI (m : Int))), some (.int (iI (if (tS S (psS S) sh b k).2 < S.1 0 then ((tS S (psS S) sh b k).2 : Int) else -900009))), some (.int (iI (k : Int)))] [] := by
  intro n
  induction n with
  | zero =>
    intro k m N hk hlt hx hm hmb ho hw hn
    exact absurd hn (by omega)
  | succ n ih =>
    intro k m N hk hlt hx hm hmb ho hw hn
    have h12 := hO.n
    have hRN := RXt hR hx
    have es := tS_succ S (psS S) sh b k
    have hk0 : S.1 0 ≤ (tS S (psS S) sh b k).2 → 0 < k := fun q => by
      rcases Nat.eq_zero_or_pos k with z | z
      · subst z
        exact absurd q (Nat.not_le.mpr hb)
      · exact z
    refine r_ild6 C (pc := 12) d_F_tryFall_12 ?_
    refine r_bipush C (pc := 14) (n := 12) rfl d_F_tryFall_14 ?_
    refine r_icmp_ge C (pc := 16) (tgt := 68) (by omega) (by omega) d_F_tryFall_16 (by decide) (fun c16 => ?_) (fun c16 => ?_)
    · refine r_ild6 C (pc := 68) d_F_tryFall_68 ?_
      exact r_iret C (pc := 70) hQ (by
      have hge : S.1 0 ≤ (tS S (psS S) sh b k).2 := by
        first
        | (have e : k = 12 := by omega
           subst e
           exact tS_end hO hbd hb hlt)
        | exact Nat.le_of_not_lt (fun q => by rw [if_pos q] at c23; omega)
      rw [TM_at hk hge hlt]
      exact ⟨rfl, hx, ho, hw (hk0 hge)⟩) d_F_tryFall_70
    · refine r_ild5 C (pc := 19) d_F_tryFall_19 ?_
      refine r_ldc C (pc := 21) (z := (-900009)) k_296 rfl d_F_tryFall_21 ?_
      refine r_icmp_eq C (pc := 23) (tgt := 68) (by split <;> omega) (by omega) d_F_tryFall_23 (by decide) (fun c23 => ?_) (fun c23 => ?_)
      · refine r_ild6 C (pc := 68) d_F_tryFall_68 ?_
        exact r_iret C (pc := 70) hQ (by
      have hge : S.1 0 ≤ (tS S (psS S) sh b k).2 := by
        first
        | (have e : k = 12 := by omega
           subst e
           exact tS_end hO hbd hb hlt)
        | exact Nat.le_of_not_lt (fun q => by rw [if_pos q] at c23; omega)
      rw [TM_at hk hge hlt]
      exact ⟨rfl, hx, ho, hw (hk0 hge)⟩) d_F_tryFall_70
      · have hlk : (tS S (psS S) sh b k).2 < S.1 0 := Classical.not_not.mp (fun q => c23 (by rw [if_neg q]))
        rw [if_pos hlk]
        have hm2 := or_4096 (d := m) (k := (tS S (psS S) sh b k).2) hm (by omega)
        have hmb2 : ∀ i, i < 12 → (m ||| 2 ^ (tS S (psS S) sh b k).2).testBit i = (tS S (psS S) sh b (k + 1)).1 i := fun i hi => by
          rw [tb_or, hmb i hi, es]
          show _ = ((tS S (psS S) sh b k).1 i || decide (i = (tS S (psS S) sh b k).2))
          congr 1
          exact decide_eq_decide.mpr ⟨Eq.symm, Eq.symm⟩
        have hlt2 : ∀ j, j < k + 1 → (tS S (psS S) sh b j).2 < S.1 0 := fun j hj => by
          rcases Nat.lt_or_ge j k with w | w
          · exact hlt j w
          · rw [show j = k by omega]; exact hlk
        refine r_ald3 C (pc := 26) d_F_tryFall_26 ?_
        refine r_ild6 C (pc := 27) d_F_tryFall_27 ?_
        refine r_ild5 C (pc := 29) d_F_tryFall_29 ?_
        refine X_iastN C (pc := 31) hS (k) (by omega) rfl (by decide) (by omega) (by decide)  d_F_tryFall_31 ?_
        have hx7 : tX M (zI N 7 k ((tS S (psS S) sh b k).2 : Int)) := ⟨fun a i q q1 q2 => by rw [zI_ne q2]; exact hx.1 a i q q1 q2, hx.2⟩
        refine r_iinc6 C (pc := 32) rfl d_F_tryFall_32 ?_
        refine r_ild4 C (pc := 35) d_F_tryFall_35 ?_
        refine r_iconst C (pc := 37) d_F_tryFall_37 ?_
        refine r_ild5 C (pc := 38) d_F_tryFall_38 ?_
        refine r_ishl C (pc := 40) (bi_shl (by omega)) d_F_tryFall_40 ?_
        refine r_ior C (pc := 41) (bi_or _ _) d_F_tryFall_41 ?_
        refine r_ist4 C (pc := 42) rfl d_F_tryFall_42 ?_
        refine r_ald0 C (pc := 44) d_F_tryFall_44 ?_
        refine r_ald0 C (pc := 45) d_F_tryFall_45 ?_
        refine r_ild4 C (pc := 46) d_F_tryFall_46 ?_
        refine call_F_downBy C (pc := 48) hS (c_F_downBy _ _ _ S (RXt hR hx7) hO _ hm2) k_289 (by decide) (Nat.le_of_ble_eq_true rfl) rfl d_F_tryFall_48 (kkI (fun r48 N48 h48 => ?_))
        obtain ⟨⟨w, rfl, hw2, hwb⟩, rfl⟩ := h48
        have hwd : ∀ i, i < 12 → w.testBit i = if i < S.1 0 then dA S (tS S (psS S) sh b (k + 1)).1 i else false := fun i hi => by
          rw [hwb i hi]
          by_cases e : i < S.1 0
          · rw [if_pos e, if_pos e]
            exact congrFun (dn_cong S _ (fun j hj => hmb2 j (by omega))) i
          · rw [if_neg e, if_neg e, hmb2 i hi]
            exact tS_out hO (by omega) hi (k + 1) hlt2
        refine pX_F_triedDown C (pc := 51) hS k_116 d_F_tryFall_51 ?_
        have hx8 : tX M (zI (zI N 7 k ((tS S (psS S) sh b k).2 : Int)) 1 14 (w : Int)) := ⟨fun a i q q1 q2 => by rw [zI_at, if_neg q1]; exact hx7.1 a i q q1 q2, hx.2⟩
        refine r_ald0 C (pc := 54) d_F_tryFall_54 ?_
        refine r_ald0 C (pc := 55) d_F_tryFall_55 ?_
        refine gX_F_triedDown C (pc := 56) hS k_116 d_F_tryFall_56 ?_
        rw [zI_same]
        refine r_ald2 C (pc := 59) d_F_tryFall_59 ?_
        refine call_F_firstNotHolding C (pc := 60) hS (c_F_firstNotHolding _ _ _ S (RXt hR hx8) hO w hw2 sh (fun c hc => ⟨(hx8.1 6 c (by omega) (by omega) (by omega)).trans (hsh c hc).1, (hsh c hc).2⟩)) k_551 (by decide) (Nat.le_of_ble_eq_true rfl) rfl d_F_tryFall_60 (kkI (fun r60 N60 h60 => ?_))
        obtain ⟨rfl, b1⟩ := h60
        have eFN : FN S (psS S) (fun i => w.testBit i) sh = (tS S (psS S) sh b (k + 1)).2 := FN_cong (fun _ _ => rfl) (fun j hj => by rw [hwd j (by omega), if_pos hj]; rfl)
        rw [eFN]
        refine r_ist5 C (pc := 63) rfl d_F_tryFall_63 ?_
        refine r_goto C (pc := 65) (tgt := 12) d_F_tryFall_65 (by decide) ?_
        exact ih (k + 1) _ N60 (by omega) hlt2 (hx8.tb b1) hm2 hmb2 (fun j hj => by
          rw [b1.1 7 j (by omega), zI_ne (by decide), zI_at]
          by_cases e : j = k
          · subst e; rw [if_pos ⟨rfl, rfl⟩]
          · rw [if_neg (fun q => e q.2)]; exact ho j (by omega)) (fun _ => ⟨w, by rw [b1.1 1 14 (by omega), zI_same], hw2, hwd⟩) (by omega)
set_option maxRecDepth 20000 in
theorem c_F_tryFall (l : Launch) (E : zE) (M : zM) (S : zS) (hR : RX S M) (hO : ok S) (b : Nat) (hb : b < S.1 0) (hbd : dA S (flS S) b = false) (sh : Nat → Int) (hsh : ∀ b, b < S.1 0 → M.1 6 b = sh b ∧ 0 ≤ sh b ∧ sh b ≤ 10) : zK l sX E y_F_tryFall b_F_tryFall 7 (some .int) 5 128 [.ref (E.2.2 1), .int (iI (b : Int)), .ref (E.2.2 6), .ref (E.2.2 7)] M (zPi (fun r M2 => r = (TM S (psS S) sh b : Int) ∧ tX M M2 ∧ (∀ j, j < TM S (psS S) sh b → M2.1 7 j = ((tS S (psS S) sh b j).2 : Int)) ∧ (∃ w : Nat, M2.1 1 14 = (w : Int) ∧ w < 4096 ∧ ∀ i, i < 12 → w.testBit i = if i < S.1 0 then dA S (tS S (psS S) sh b (TM S (psS S) sh b)).1 i else false))) := by
  refine zK.of "OldBeams$Frame" rfl (by decide) (Nat.le_of_ble_eq_true rfl) ?_
  intro G hS hE hQ hL C
  subst hE
  subst hL
  show VJ G M 0 [some (.ref (G.2.1.2.2 1)), some (.int (iI (b : Int))), some (.ref (G.2.1.2.2 6)), some (.ref (G.2.1.2.2 7)), none, none, none] []
  have h12 := hO.n
  obtain ⟨m, em, hm, hmb⟩ := hR.2.2.2.2.1
  refine r_ald0 C (pc := 0) d_F_tryFall_0 ?_
  refine gX_F_fallen C (pc := 1) hS k_100 d_F_tryFall_1 ?_
  rw [em]
  refine r_ist4 C (pc := 4) rfl d_F_tryFall_4 ?_
  refine r_ild1 C (pc := 6) d_F_tryFall_6 ?_
  refine r_ist5 C (pc := 7) rfl d_F_tryFall_7 ?_
  refine r_iconst C (pc := 9) d_F_tryFall_9 ?_
  refine r_ist6 C (pc := 10) rfl d_F_tryFall_10 ?_
  refine r_weak ?_ (l_F_tryFall_12 C hS M S hR hO b hb hbd sh hsh hQ 13 0 m M (by omega) (fun j hj => absurd hj (Nat.not_lt_zero j)) (tX.rf M) hm hmb (fun j hj => absurd hj (Nat.not_lt_zero j)) (fun q => absurd q (Nat.lt_irrefl 0)) (by omega))
  exact ⟨Or.inr rfl, Or.inr rfl, Or.inr rfl, Or.inr rfl, Or.inr rfl, Or.inr (by show _ = some (Value.int (iI (if b < S.1 0 then (b : Int) else -900009))); rw [if_pos hb]), Or.inr rfl, trivial⟩
-- the fewest props: sets as numbers below 256, place 0 the highest bit; of as many the greatest number
def cn (q : Nat) : Nat := dcnt (fun i => q.testBit i) 12
def isB (ok : Nat → Bool) (q : Nat) : Prop := q < 256 ∧ ok q = true ∧ ∀ r, r < 256 → ok r = true → r ≠ q → cn q < cn r ∨ (cn q = cn r ∧ r < q)
theorem isB_one {ok : Nat → Bool} {q r : Nat} (h : isB ok q) (g : isB ok r) : q = r := by
  rcases Nat.lt_trichotomy q r with e | e | e
  · have h1 := h.2.2 r g.1 g.2.1 (by omega)
    have h2 := g.2.2 q h.1 h.2.1 (by omega)
    omega
  · exact e
  · have h1 := h.2.2 r g.1 g.2.1 (by omega)
    have h2 := g.2.2 q h.1 h.2.1 (by omega)
    omega
/-- the best of those below k; 256: none -/
def bsN (ok : Nat → Bool) : Nat → Nat
  | 0 => 256
  | k + 1 => if ok k && (decide (bsN ok k = 256) || decide (cn k ≤ cn (bsN ok k))) then k else bsN ok k
theorem bsN_succ (ok : Nat → Bool) (k : Nat) : bsN ok (k + 1) = if ok k && (decide (bsN ok k = 256) || decide (cn k ≤ cn (bsN ok k))) then k else bsN ok k := rfl
theorem bsN_is (ok : Nat → Bool) : ∀ k : Nat, k ≤ 256 → (bsN ok k = 256 ∧ ∀ r, r < k → ok r = false) ∨ (bsN ok k < k ∧ ok (bsN ok k) = true ∧ ∀ r, r < k → ok r = true → r ≠ bsN ok k → cn (bsN ok k) < cn r ∨ (cn (bsN ok k) = cn r ∧ r < bsN ok k))
  | 0, _ => Or.inl ⟨rfl, fun r h => absurd h (Nat.not_lt_zero r)⟩
  | k + 1, hk => by
    have ih := bsN_is ok k (by omega)
    rw [bsN_succ]
    by_cases h : (ok k && (decide (bsN ok k = 256) || decide (cn k ≤ cn (bsN ok k)))) = true
    · rw [if_pos h]
      simp only [Bool.and_eq_true, Bool.or_eq_true, decide_eq_true_eq] at h
      refine Or.inr ⟨by omega, h.1, fun r h1 h2 h3 => ?_⟩
      have hr : r < k := by omega
      rcases ih with ⟨-, q2⟩ | ⟨q1, q2, q3⟩
      · rw [q2 r hr] at h2; cases h2
      · by_cases e : r = bsN ok k
        · subst e; omega
        · have := q3 r hr h2 e
          omega
    · rw [if_neg h]
      simp only [Bool.and_eq_true, Bool.or_eq_true, decide_eq_true_eq] at h
      rcases ih with ⟨q1, q2⟩ | ⟨q1, q2, q3⟩
      · refine Or.inl ⟨q1, fun r hr => ?_⟩
        rcases Nat.lt_or_ge r k with z | z
        · exact q2 r z
        · rw [show r = k by omega]
          exact Bool.eq_false_iff.mpr (fun w => h ⟨w, Or.inl q1⟩)
      · refine Or.inr ⟨by omega, q2, fun r h1 h2 h3 => ?_⟩
        rcases Nat.lt_or_ge r k with z | z
        · exact q3 r z h2 h3
        · have e : r = k := by omega
          subst e
          exact Or.inl (Nat.lt_of_not_le (fun w => h ⟨h2, Or.inr w⟩))
theorem bsN_of {ok : Nat → Bool} {q : Nat} (h : isB ok q) : bsN ok 256 = q := by
  rcases bsN_is ok 256 (Nat.le_refl _) with ⟨-, h2⟩ | ⟨h1, h2, h3⟩
  · exact absurd h.2.1 (by rw [h2 q h.1]; decide)
  · exact isB_one (ok := ok) ⟨h1, h2, h3⟩ h
theorem bsN_none {ok : Nat → Bool} (h : ∀ q, q < 256 → ok q = false) : bsN ok 256 = 256 := by
  rcases bsN_is ok 256 (Nat.le_refl _) with ⟨h1, -⟩ | ⟨h1, h2, -⟩
  · exact h1
  · rw [h _ h1] at h2; cases h2
theorem ms_cn : ∀ pc, pc < 9 → ∀ q, q < 256 → q &&& (255 / 2 ^ pc) = 0 → cn q ≤ pc := by decide +kernel
/-- a set of props may be taken, and with it the frame stands -/
def okQ (S : zS) (sh : Nat → Int) (q : Nat) : Bool := decide (q &&& (255 / 2 ^ S.1 3) = 0) && alN (fun b => hoB S (fun p => q.testBit (7 - p)) (fun _ => false) b (sh b)) (S.1 0)
def FW (S : zS) (sh : Nat → Int) : Int := if (∀ b, b < S.1 0 → dA S (flS S) b = false) ∧ bsN (okQ S sh) 256 < 256 then (bsN (okQ S sh) 256 : Int) else -900009
set_option maxRecDepth 20000 in
theorem l_F_fewestProps_40 {G : zG} (C : zC G b_F_fewestProps "OldBeams$Frame" (some .int) 6 4 105) (hS : G.1 = sX) (M : zM) (S : zS) (hR : RX S M) (hO : ok S) (sh : Nat → Int) (hsh : ∀ b, b < S.1 0 → M.1 6 b = sh b ∧ 0 ≤ sh b ∧ sh b ≤ 10) (hnd : ∀ b, b < S.1 0 → dA S (flS S) b = false) (k : Nat) (hk : k ≤ S.1 3) (hQ : G.2.2.1 = zPi (fun r M2 => r = FW S sh ∧ bX M M2)) : ∀ (n : Nat) (c : Nat) (N : zM), (c ≤ 256) → (bX M N) → (∀ q, q < 256 → okQ S sh q = true → k ≤ cn q) → (∀ q, c ≤ q → q < 256 → okQ S sh q = true → k < cn q) → (∀ N2 : zM, bX M N2 → (∀ q, q < 256 → okQ S sh q = true → k < cn q) → VJ G N2 84 [some (.ref (zad G 1)), some (.ref (zad G 6)), some (.int (iI 255)), some (.int (iI ((255 / 2 ^ S.1 3 : Nat) : Int))), some (.int (iI (k : Int))), none] []) → (c < n) → VJ G N 40 [some (.ref (zad G 1)), some (.ref (zad G 6)), some (.int (iI 255)), some (.int (iI ((255 / 2 ^ S.1 3 : Nat) : Int))), some (.int (iI (k : Int))), some (.int (iI ((c : Int) - 1)))] [] := by
  intro n
  induction n with
  | zero =>
    intro c N hc hx h0 h1 K hn
    exact absurd hn (by omega)
  | succ n ih =>
    intro c N hc hx h0 h1 K hn
    have h12 := hO.1
    have hRN := RXb hR hx
    have h255 : 255 / 2 ^ S.1 3 ≤ 255 := Nat.div_le_self _ _
    refine r_ild5 C (pc := 40) d_F_fewestProps_40 ?_
    refine r_if_lt C (pc := 42) (tgt := 84) (by omega) d_F_fewestProps_42 (by decide) (fun c42 => ?_) (fun c42 => ?_)
    refine r_weak ?_ (K N hx (fun q h2 h3 => h1 q (by omega) h2 h3))
    exact ⟨Or.inr rfl, Or.inr rfl, Or.inr rfl, Or.inr rfl, Or.inr rfl, Or.inl rfl, trivial⟩
    · have hcl : cn (c - 1) ≤ 12 := dcnt_le _ 12
      refine r_ild5 C (pc := 45) d_F_fewestProps_45 ?_
      refine r_topZ (b := ((c - 1 : Nat) : Int)) (by omega) ?_
      refine call_In_bitCount C (pc := 47) hS (c_In_bitCount _ _ _ (c - 1) (by omega)) k_581 (by decide) (Nat.le_of_ble_eq_true rfl) rfl d_F_fewestProps_47 (kkI (fun r47 N47 h47 => ?_))
      obtain ⟨rfl, rfl⟩ := h47
      rw [show dcnt (fun i => Nat.testBit (c - 1) i) 12 = cn (c - 1) from rfl]
      refine r_ild4 C (pc := 50) d_F_fewestProps_50 ?_
      refine r_icmp_ne C (pc := 52) (tgt := 78) (by omega) (by omega) d_F_fewestProps_52 (by decide) (fun c52 => ?_) (fun c52 => ?_)
      · refine r_iinc5 C (pc := 78) rfl d_F_fewestProps_78 ?_
        refine r_goto C (pc := 81) (tgt := 40) d_F_fewestProps_81 (by decide) ?_
        have hno : ¬ (okQ S sh (c - 1) = true ∧ cn (c - 1) = k) := fun z => c52 (by omega)
        refine r_weak ?_ (ih (c - 1) _ (by omega) hx h0 (fun r h2 h3 h4 => by
          rcases Nat.lt_or_ge r c with w | w
          · have e : r = c - 1 := by omega
            subst e
            have := h0 (c - 1) h3 h4
            omega
          · exact h1 r w h3 h4) K (by omega))
        exact ⟨Or.inr rfl, Or.inr rfl, Or.inr rfl, Or.inr rfl, Or.inr rfl, Or.inr (by first | rfl | rw [show (c : Int) - 1 + -1 = ((c - 1 : Nat) : Int) - 1 by omega]), trivial⟩
      · rw [show (c : Int) - 1 = ((c - 1 : Nat) : Int) by omega]
        refine r_ild5 C (pc := 55) d_F_fewestProps_55 ?_
        refine r_ild3 C (pc := 57) d_F_fewestProps_57 ?_
        refine r_iand C (pc := 58) (bi_and _ _) d_F_fewestProps_58 ?_
        have hle : (c - 1) &&& (255 / 2 ^ S.1 3) ≤ c - 1 := Nat.and_le_left
        refine r_if_eq C (pc := 59) (tgt := 65) (by omega) d_F_fewestProps_59 (by decide) (fun c59 => ?_) (fun c59 => ?_)
        · refine r_ald0 C (pc := 65) d_F_fewestProps_65 ?_
          refine r_ild5 C (pc := 66) d_F_fewestProps_66 ?_
          refine r_ald1 C (pc := 68) d_F_fewestProps_68 ?_
          refine call_F_standsWith C (pc := 69) hS (c_F_standsWith _ _ _ S hRN hO (c - 1) (by omega) sh (fun d hd => ⟨(hx.1 6 d (by omega)).trans (hsh d hd).1, (hsh d hd).2⟩)) k_582 (by decide) (Nat.le_of_ble_eq_true rfl) rfl d_F_fewestProps_69 (kkI (fun r69 N69 h69 => ?_))
          obtain ⟨rfl, b1⟩ := h69
          refine r_ifeqB C (pc := 72) (tgt := 78) d_F_fewestProps_72 (by decide) (fun c72 => ?_) (fun c72 => ?_)
          · refine r_iinc5 C (pc := 78) rfl d_F_fewestProps_78 ?_
            refine r_goto C (pc := 81) (tgt := 40) d_F_fewestProps_81 (by decide) ?_
            have hno : ¬ okQ S sh (c - 1) = true := fun z => c72 (by unfold okQ at z; exact (Bool.and_eq_true _ _ ▸ z).2)
            refine r_weak ?_ (ih (c - 1) _ (by omega) (hx.tr b1) h0 (fun r h2 h3 h4 => by
              rcases Nat.lt_or_ge r c with w | w
              · exact absurd (by rw [show c - 1 = r by omega]; exact h4) hno
              · exact h1 r w h3 h4) K (by omega))
            exact ⟨Or.inr rfl, Or.inr rfl, Or.inr rfl, Or.inr rfl, Or.inr rfl, Or.inr (by first | rfl | rw [show (c : Int) - 1 + -1 = ((c - 1 : Nat) : Int) - 1 by omega]), trivial⟩
          · refine r_ild5 C (pc := 75) d_F_fewestProps_75 ?_
            exact r_iret C (pc := 77) hQ ⟨by
        have hok : okQ S sh (c - 1) = true := by
          unfold okQ
          rw [c72, Bool.and_true, decide_eq_true_eq]
          omega
        have hB : isB (okQ S sh) (c - 1) := ⟨by omega, hok, fun r h3 h4 h5 => by
          have h6 := h0 r h3 h4
          rcases Nat.lt_or_ge r c with w | w
          · omega
          · have := h1 r w h3 h4
            omega⟩
        unfold FW
        rw [bsN_of hB, if_pos ⟨hnd, by omega⟩], hx.tr b1⟩ d_F_fewestProps_77
        · refine r_goto C (pc := 62) (tgt := 78) d_F_fewestProps_62 (by decide) ?_
          refine r_iinc5 C (pc := 78) rfl d_F_fewestProps_78 ?_
          refine r_goto C (pc := 81) (tgt := 40) d_F_fewestProps_81 (by decide) ?_
          have hno : ¬ okQ S sh (c - 1) = true := fun z => c59 (by unfold okQ at z; have := (Bool.and_eq_true _ _ ▸ z).1; rw [decide_eq_true_eq] at this; omega)
          refine r_weak ?_ (ih (c - 1) _ (by omega) hx h0 (fun r h2 h3 h4 => by
            rcases Nat.lt_or_ge r c with w | w
            · exact absurd (by rw [show c - 1 = r by omega]; exact h4) hno
            · exact h1 r w h3 h4) K (by omega))
          exact ⟨Or.inr rfl, Or.inr rfl, Or.inr rfl, Or.inr rfl, Or.inr rfl, Or.inr (by first | rfl | rw [show (c : Int) - 1 + -1 = ((c - 1 : Nat) : Int) - 1 by omega]), trivial⟩
set_option maxRecDepth 20000 in
theorem l_F_fewestProps_28 {G : zG} (C : zC G b_F_fewestProps "OldBeams$Frame" (some .int) 6 4 105) (hS : G.1 = sX) (M : zM) (S : zS) (hR : RX S M) (hO : ok S) (sh : Nat → Int) (hsh : ∀ b, b < S.1 0 → M.1 6 b = sh b ∧ 0 ≤ sh b ∧ sh b ≤ 10) (hnd : ∀ b, b < S.1 0 → dA S (flS S) b = false) (hQ : G.2.2.1 = zPi (fun r M2 => r = FW S sh ∧ bX M M2)) : ∀ (n : Nat) (k : Nat) (N : zM), (k ≤ S.1 3 + 1) → (bX M N) → (∀ q, q < 256 → okQ S sh q = true → k ≤ cn q) → (S.1 3 + 1 - k < n) → VJ G N 28 [some (.ref (zad G 1)), some (.ref (zad G 6)), some (.int (iI 255)), some (.int (iI ((255 / 2 ^ S.1 3 : Nat) : Int))), some (.int (iI (k : Int))), none] [] := by
  intro n
  induction n with
  | zero =>
    intro k N hk hx h0 hn
    exact absurd hn (by omega)
  | succ n ih =>
    intro k N hk hx h0 hn
    have h12 := hO.1
    have hRN := RXb hR hx
    have hcnt : N.1 1 12 = (S.1 3 : Int) := hRN.1.2.2.2
    refine r_ild4 C (pc := 28) d_F_fewestProps_28 ?_
    refine r_ald0 C (pc := 30) d_F_fewestProps_30 ?_
    refine gX_F_propCount C (pc := 31) hS k_112 d_F_fewestProps_31 ?_
    rw [hcnt]
    refine r_icmp_gt C (pc := 34) (tgt := 90) (by omega) (by omega) d_F_fewestProps_34 (by decide) (fun c34 => ?_) (fun c34 => ?_)
    · refine r_ldc C (pc := 90) (z := (-900009)) k_296 rfl d_F_fewestProps_90 ?_
      exact r_iret C (pc := 92) hQ (⟨by unfold FW; rw [bsN_none (fun q hq => Bool.eq_false_iff.mpr (fun z => by have h3 := h0 q hq z; have h4 := ms_cn (S.1 3) (by omega) q hq (by unfold okQ at z; have := (Bool.and_eq_true _ _ ▸ z).1; rwa [decide_eq_true_eq] at this); omega)), if_neg (fun z => absurd z.2 (by decide))], hx⟩) d_F_fewestProps_92
    · refine r_ild2 C (pc := 37) d_F_fewestProps_37 ?_
      refine r_ist5 C (pc := 38) rfl d_F_fewestProps_38 ?_
      refine l_F_fewestProps_40 C hS M S hR hO sh hsh hnd k (by omega) hQ 257 256 N (by omega) hx h0 (fun q h2 h3 => by omega) (fun N2 hx2 hno => ?_) (by omega)
      refine r_iinc4 C (pc := 84) rfl d_F_fewestProps_84 ?_
      refine r_goto C (pc := 87) (tgt := 28) d_F_fewestProps_87 (by decide) ?_
      exact ih (k + 1) _ (by omega) hx2 hno (by omega)
set_option maxRecDepth 20000 in
theorem c_F_fewestProps (l : Launch) (E : zE) (M : zM) (S : zS) (hR : RX S M) (hO : ok S) (sh : Nat → Int) (hsh : ∀ b, b < S.1 0 → M.1 6 b = sh b ∧ 0 ≤ sh b ∧ sh b ≤ 10) : zK l sX E y_F_fewestProps b_F_fewestProps 6 (some .int) 4 105 [.ref (E.2.2 1), .ref (E.2.2 6)] M (zPi (fun r M2 => r = FW S sh ∧ bX M M2)) := by
  refine zK.of "OldBeams$Frame" rfl (by decide) (Nat.le_of_ble_eq_true rfl) ?_
  intro G hS hE hQ hL C
  subst hE
  subst hL
  show VJ G M 0 [some (.ref (G.2.1.2.2 1)), some (.ref (G.2.1.2.2 6)), none, none, none, none] []
  have h12 := hO.1
  obtain ⟨m, em, hm, hmb⟩ := hR.2.2.2.2.1
  have hcnt : M.1 1 12 = (S.1 3 : Int) := hR.1.2.2.2
  refine r_ald0 C (pc := 0) d_F_fewestProps_0 ?_
  refine r_ald0 C (pc := 1) d_F_fewestProps_1 ?_
  refine gX_F_fallen C (pc := 2) hS k_100 d_F_fewestProps_2 ?_
  rw [em]
  refine call_F_downBy C (pc := 5) hS (c_F_downBy _ _ _ S (by assumption) hO _ (by omega)) k_289 (by decide) (Nat.le_of_ble_eq_true rfl) rfl d_F_fewestProps_5 (kkI (fun r5 N5 h5 => ?_))
  obtain ⟨⟨w, rfl, hw, hwb⟩, rfl⟩ := h5
  refine r_if_eq C (pc := 8) (tgt := 14) (by omega) d_F_fewestProps_8 (by decide) (fun c8 => ?_) (fun c8 => ?_)
  · have hnd : ∀ b, b < S.1 0 → dA S (flS S) b = false := fun b hb => by
      have e : w = 0 := by omega
      have := hwb b (by omega)
      rw [if_pos hb, e, Nat.zero_testBit, dA_fl hO hmb] at this
      exact this.symm
    refine r_sipush C (pc := 14) (n := 255) rfl d_F_fewestProps_14 ?_
    refine r_ist2 C (pc := 17) rfl d_F_fewestProps_17 ?_
    refine r_ild2 C (pc := 18) d_F_fewestProps_18 ?_
    refine r_ald0 C (pc := 19) d_F_fewestProps_19 ?_
    refine gX_F_propCount C (pc := 20) hS k_112 d_F_fewestProps_20 ?_
    rw [hcnt]
    refine r_ishr C (pc := 23) (bi_shr (m := 255) (by decide) (by omega)) d_F_fewestProps_23 ?_
    refine r_ist3 C (pc := 24) rfl d_F_fewestProps_24 ?_
    refine r_iconst C (pc := 25) d_F_fewestProps_25 ?_
    refine r_ist4 C (pc := 26) rfl d_F_fewestProps_26 ?_
    exact l_F_fewestProps_28 C hS M S hR hO sh hsh hnd hQ (S.1 3 + 2) 0 M (by omega) (bX.rf M) (fun _ _ _ => Nat.zero_le _) (by omega)
  · have hnn : ¬ ∀ b, b < S.1 0 → dA S (flS S) b = false := fun q => c8 (by
      have e : w = 0 := Nat.eq_of_testBit_eq (fun i => by
        rw [Nat.zero_testBit]
        rcases Nat.lt_or_ge i 12 with z | z
        · rw [hwb i z]
          by_cases e : i < S.1 0
          · rw [if_pos e, dA_fl hO hmb]; exact q i e
          · rw [if_neg e, hmb i z]; exact fl_out hO (by omega) z
        · exact Nat.testBit_lt_two_pow (Nat.lt_of_lt_of_le hw (Nat.pow_le_pow_right (n := 2) (by decide) z)))
      rw [e]
      rfl)
    refine r_ldc C (pc := 11) (z := (-900009)) k_296 rfl d_F_fewestProps_11 ?_
    exact r_iret C (pc := 13) hQ (⟨by unfold FW; rw [if_neg (fun z => hnn z.1)], bX.rf M⟩) d_F_fewestProps_13
