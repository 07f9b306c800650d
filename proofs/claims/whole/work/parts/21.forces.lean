/-- nothing but what beams reckon has changed -/
def bX (M N : zM) : Prop := (∀ a i, ¬ (45 ≤ a ∧ (a - 45) % 7 = 0 ∧ i = 12) → N.1 a i = M.1 a i) ∧ ∀ a, a < 45 ∨ (a - 45) % 7 = 4 → N.2 a = M.2 a
theorem bX.rf (M : zM) : bX M M := ⟨fun _ _ _ => rfl, fun _ _ => rfl⟩
theorem bX.tr {M N O : zM} (h : bX M N) (g : bX N O) : bX M O := ⟨fun a i q => (g.1 a i q).trans (h.1 a i q), fun a q => (g.2 a q).trans (h.2 a q)⟩
theorem bXI {M N : zM} (h : bX M N) {b : Nat} {z : Int} : bX M (zI N (45 + 7 * b) 12 z) := ⟨fun a i q => by
  rw [zI_at, if_neg (fun e => q (by omega))]
  exact h.1 a i q, h.2⟩
theorem bXJ {M N : zM} (h : bX M N) {k i : Nat} {x : Int64} (hk : ¬ (k < 45 ∨ (k - 45) % 7 = 4)) : bX M (zJ N k i x) := ⟨h.1, fun a q => by
  rw [zJ_fn (fun e => hk (by rw [← e]; exact q))]
  exact h.2 a q⟩
/-- what holds of the numbers that are kept -/
theorem RXb {S : zS} {M N : zM} (h : RX S M) (g : bX M N) : RX S N := by
  obtain ⟨g1, g2⟩ := g
  obtain ⟨⟨n0, n1, n2, n3⟩, hk, hb, hb2, ⟨m, hm⟩, hl, hp, ⟨m2, hm2⟩, hw, ht, hlk, hpr⟩ := h
  refine ⟨⟨by rw [g1 1 2 (by omega)]; exact n0, by rw [g1 1 8 (by omega)]; exact n1, by rw [g1 2 6 (by omega)]; exact n2, by rw [g1 1 12 (by omega)]; exact n3⟩, fun k h1 w h2 => by rw [g1 _ _ (by omega)]; exact hk k h1 w h2, fun b h1 => ?_, fun b h1 => ⟨by rw [g1 _ _ (by omega)]; exact (hb2 b h1).1, fun x hx => by rw [g2 _ (by omega)]; exact (hb2 b h1).2 x hx⟩, ⟨m, by rw [g1 1 3 (by omega)]; exact hm⟩, fun l h1 => ?_, fun p h1 => ?_, ⟨m2, by rw [g1 1 13 (by omega)]; exact hm2⟩, fun b h1 t h2 => by rw [g1 _ _ (by omega)]; exact hw b h1 t h2, fun k h1 t h2 => by rw [g1 _ _ (by omega)]; exact ht k h1 t h2, fun l h1 => ?_, by rw [g1 5 0 (by omega), g1 5 1 (by omega)]; exact hpr⟩
  · rw [g1 _ 0 (by omega), g1 _ 1 (by omega), g1 _ 2 (by omega), g1 _ 3 (by omega)]
    refine ⟨(hb b h1).1, fun s hs => ?_⟩
    rw [g1 (45 + 7 * b + 1) s (by omega), g1 (45 + 7 * b + 2) s (by omega), g1 (45 + 7 * b + 3) s (by omega)]
    exact (hb b h1).2 s hs
  · rw [g1 14 l (by omega), g1 15 l (by omega), g1 16 l (by omega), g1 17 l (by omega)]
    exact hl l h1
  · rw [g1 18 p (by omega), g1 19 p (by omega), g1 20 p (by omega)]
    exact hp p h1
  · rw [g1 39 l (by omega), g1 40 l (by omega), g1 41 l (by omega), g1 42 l (by omega)]
    exact hlk l h1
def hF (S : zS) (F : Nat → Nat → Int64) (N : zM) : Prop := ∀ b, b < S.1 0 → ∀ x : Nat, (x : Int) ≤ S.2 2 b 1 → N.2 (45 + 7 * b + 5) x = F b x
theorem hFzJ {S : zS} {F : Nat → Nat → Int64} {N : zM} (h : hF S F N) {k i : Nat} {x : Int64} (hk : ∀ b, b < S.1 0 → 45 + 7 * b + 5 ≠ k) : hF S F (zJ N k i x) := fun b hb y hy => by
  rw [zJ_ne (hk b hb)]
  exact h b hb y hy
theorem hFad {S : zS} {F : Nat → Nat → Int64} {N : zM} (h : hF S F N) {o w : Int} {v y : Int64} (ho : 0 ≤ o ∧ o < (S.1 0 : Int)) (hw : 0 ≤ w ∧ w ≤ S.2 2 o.toNat 1) (hy : y = N.2 (45 + 7 * o.toNat + 5) w.toNat + v) : hF S (adF F o w v) (zJ N (45 + 7 * o.toNat + 5) w.toNat y) := fun b hb x hx => by
  unfold adF
  rw [if_neg (by omega), zJ_at]
  by_cases e : (b : Int) = o ∧ (x : Int) = w
  · rw [if_pos e, if_pos ⟨by omega, by omega⟩, hy, h o.toNat (by omega) w.toNat (by omega), show o.toNat = b by omega, show w.toNat = x by omega]
  · rw [if_neg e, if_neg (fun q => e ⟨by omega, by omega⟩)]
    exact h b hb x hx
theorem grN_succ (f : Nat → Int64) (c : Nat) : grN f (c + 1) = if (grN f c).1 < ab (f c) then (ab (f c), c) else grN f c := rfl
theorem grN_cong {f g : Nat → Int64} : ∀ n : Nat, (∀ j, j < n → f j = g j) → grN f n = grN g n
  | 0, _ => rfl
  | n + 1, h => by rw [grN_succ, grN_succ, grN_cong n (fun j hj => h j (by omega)), h n (by omega)]
theorem bdG_cong {f g : Nat → Int64} {a0 a1 : Int} {q0 q1 : Int64} {x : Nat} (h : ∀ p, p < x → f p = g p) : bdG f a0 a1 q0 q1 x = bdG g a0 a1 q0 q1 x := by
  unfold bdG
  rw [sm_cong (f := fun p => f p * lI ((x : Int) - (p : Int))) (g := fun p => g p * lI ((x : Int) - (p : Int))) (fun k hk => by rw [h k hk])]
theorem FF_succ (S : zS) (ps dw : Nat → Bool) (k : Nat) : FF S ps dw (k + 1) = if dw (S.1 0 - 1 - k) then FF S ps dw k else stp S (FF S ps dw k) (S.1 0 - 1 - k) := rfl
theorem fP_succ (S : zS) (ps : Nat → Bool) (p : Nat) : fP S ps (p + 1) = fun b x => fP S ps p b x - (if S.2 7 p 0 = (b : Int) ∧ S.2 7 p 1 = (x : Int) ∧ ps p = true then lI (S.2 7 p 2) else 0) := rfl
theorem fP_cong (S : zS) {f g : Nat → Bool} : ∀ p : Nat, (∀ j, j < p → f j = g j) → fP S f p = fP S g p
  | 0, _ => rfl
  | p + 1, h => by rw [fP_succ, fP_succ, fP_cong S p (fun j hj => h j (by omega)), h p (by omega)]
theorem FF_cong (S : zS) {ps qs dw ew : Nat → Bool} (hp : ∀ j, j < S.1 3 → ps j = qs j) (hd : ∀ j, j < S.1 0 → dw j = ew j) : ∀ k : Nat, k ≤ S.1 0 → FF S ps dw k = FF S qs ew k
  | 0, _ => fP_cong S _ hp
  | k + 1, h => by rw [FF_succ, FF_succ, FF_cong S hp hd k (by omega), hd _ (by omega)]
theorem tb_and {q k : Nat} : (q &&& 2 ^ k = 0) ↔ ¬ q.testBit k = true := by
  constructor
  · intro h t
    have e : (q &&& 2 ^ k).testBit k = true := by rw [Nat.testBit_and, t, Nat.testBit_two_pow_self]; rfl
    rw [h] at e
    simp at e
  · intro h
    apply Nat.eq_of_testBit_eq
    intro i
    rw [Nat.testBit_and, Nat.testBit_two_pow, Nat.zero_testBit]
    by_cases e : k = i
    · subst e
      simp [h]
    · simp [e]
set_option maxRecDepth 20000 in
theorem l_F_spreadForces_27 {G : zG} (C : zC G b_F_spreadForces "OldBeams$Frame" none 3 2 60) (hS : G.1 = sX) (M : zM) (S : zS) (hR : RX S M) (hO : ok S) (q : Nat) (hq : q < 256) (hQ : G.2.2.1 = zPv (fun M2 => M2.1 = M.1 ∧ (∀ a, ¬ (45 ≤ a ∧ (a - 45) % 7 = 5) → M2.2 a = M.2 a) ∧ hF S (fP S (fun p => q.testBit (7 - p)) (S.1 3)) M2)) : ∀ (n : Nat) (p : Nat) (N : zM), (p ≤ S.1 3) → (N.1 = M.1) → ((∀ a, ¬ (45 ≤ a ∧ (a - 45) % 7 = 5) → N.2 a = M.2 a)) → (hF S (fP S (fun p => q.testBit (7 - p)) p) N) → (S.1 3 - p < n) → VJ G N 27 [some (.ref (zad G 1)), some (.int (iI (q : Int))), some (.int (iI (p : Int)))] [] := by
  intro n
  induction n with
  | zero =>
    intro p N hp hN1 hN2 hN3 hn
    exact absurd hn (by omega)
  | succ n ih =>
    intro p N hp hN1 hN2 hN3 hn
    have h12 := hO.1
    have hcnt : M.1 1 12 = (S.1 3 : Int) := hR.1.2.2.2
    have es := fP_succ S (fun p => q.testBit (7 - p)) p
    refine r_ild2 C (pc := 27) d_F_spreadForces_27 ?_
    refine r_ald0 C (pc := 28) d_F_spreadForces_28 ?_
    refine gX_F_propCount C (pc := 29) hS k_112 d_F_spreadForces_29 ?_
    rw [hN1, hcnt]
    refine r_icmp_ge C (pc := 32) (tgt := 81) (by omega) (by omega) d_F_spreadForces_32 (by decide) (fun c32 => ?_) (fun c32 => ?_)
    · exact r_vret C (pc := 81) hQ (⟨hN1, hN2, by rw [← show p = S.1 3 by omega]; exact hN3⟩) d_F_spreadForces_81
    · have hpr := hR.2.2.2.2.2.2.1 p (by omega)
      have hpo := hO.2.2.2.2.2.2.1 p (by omega)
      have hbo := (hO.2.2.1 (S.2 7 p 0).toNat (by omega)).2.1
      refine r_ild1 C (pc := 35) d_F_spreadForces_35 ?_
      refine r_ild2 C (pc := 36) d_F_spreadForces_36 ?_
      refine call_F_propBit C (pc := 37) hS (c_F_propBit _ _ _ _ (by omega)) k_359 (by decide) (Nat.le_of_ble_eq_true rfl) rfl d_F_spreadForces_37 (kkI (fun r37 N37 h37 => ?_))
      obtain ⟨rfl, rfl⟩ := h37
      refine r_iand C (pc := 40) (bi_and _ _) d_F_spreadForces_40 ?_
      have hle : q &&& 2 ^ (7 - p) ≤ q := Nat.and_le_left
      have htb := tb_and (q := q) (k := 7 - p)
      refine r_if_eq C (pc := 41) (tgt := 75) (by omega) d_F_spreadForces_41 (by decide) (fun c41 => ?_) (fun c41 => ?_)
      · refine r_iinc2 C (pc := 75) rfl d_F_spreadForces_75 ?_
        refine r_goto C (pc := 78) (tgt := 27) d_F_spreadForces_78 (by decide) ?_
        refine ih (p + 1) _ (by omega) hN1 hN2 (fun b hb x hx => ?_) (by omega)
        have ht : ¬ q.testBit (7 - p) = true := htb.mp (by omega)
        rw [es]
        show _ = fP S (fun p => q.testBit (7 - p)) p b x - (if S.2 7 p 0 = (b : Int) ∧ S.2 7 p 1 = (x : Int) ∧ q.testBit (7 - p) = true then lI (S.2 7 p 2) else 0)
        rw [if_neg (fun z => ht z.2.2), hN3 b hb x hx, Int64.sub_zero]
      · refine r_ald0 C (pc := 44) d_F_spreadForces_44 ?_
        refine gX_F_beams C (pc := 45) hS k_95 d_F_spreadForces_45 ?_
        refine r_ald0 C (pc := 48) d_F_spreadForces_48 ?_
        refine gX_F_propBeam C (pc := 49) hS k_109 d_F_spreadForces_49 ?_
        refine r_ild2 C (pc := 52) d_F_spreadForces_52 ?_
        refine X_ialdN C (pc := 53) hS (p) (by omega) rfl (by decide) (by omega) (by decide) d_F_spreadForces_53 ?_
        rw [hN1, hpr.1]
        refine X_beams C (pc := 54) hS (by omega) (by omega) d_F_spreadForces_54 ?_
        refine gX_B_forces C (pc := 55) hS (by omega) k_54 d_F_spreadForces_55 ?_
        refine r_ald0 C (pc := 58) d_F_spreadForces_58 ?_
        refine gX_F_propPlace C (pc := 59) hS k_110 d_F_spreadForces_59 ?_
        refine r_ild2 C (pc := 62) d_F_spreadForces_62 ?_
        refine X_ialdN C (pc := 63) hS (p) (by omega) rfl (by decide) (by omega) (by decide) d_F_spreadForces_63 ?_
        rw [hN1, hpr.2.1]
        refine r_dup2 C (pc := 64) rfl rfl d_F_spreadForces_64 ?_
        refine X_lald C (pc := 65) hS (shB5 _) (by omega) (by omega) (by omega) (by decide) d_F_spreadForces_65 ?_
        refine r_ald0 C (pc := 66) d_F_spreadForces_66 ?_
        refine gX_F_propPush C (pc := 67) hS k_111 d_F_spreadForces_67 ?_
        refine r_ild2 C (pc := 70) d_F_spreadForces_70 ?_
        refine X_ialdN C (pc := 71) hS (p) (by omega) rfl (by decide) (by omega) (by decide) d_F_spreadForces_71 ?_
        rw [hN1, hpr.2.2]
        refine r_i2l C (pc := 72) (by omega) d_F_spreadForces_72 ?_
        refine r_lsub C (pc := 73) d_F_spreadForces_73 ?_
        refine X_last C (pc := 74) hS (shB5 _) (by omega) (by omega) (by omega) (by decide)  d_F_spreadForces_74 ?_
        refine r_iinc2 C (pc := 75) rfl d_F_spreadForces_75 ?_
        refine r_goto C (pc := 78) (tgt := 27) d_F_spreadForces_78 (by decide) ?_
        refine ih (p + 1) _ (by omega) hN1 (fun a ha => (zJ_fn (by omega)).trans (hN2 a ha)) (fun b hb x hx => ?_) (by omega)
        have ht : q.testBit (7 - p) = true := Classical.not_not.mp (fun z => c41 (by have := htb.mpr z; omega))
        rw [es]
        show _ = fP S (fun p => q.testBit (7 - p)) p b x - (if S.2 7 p 0 = (b : Int) ∧ S.2 7 p 1 = (x : Int) ∧ q.testBit (7 - p) = true then lI (S.2 7 p 2) else 0)
        rw [zJ_at]
        by_cases e : S.2 7 p 0 = (b : Int) ∧ S.2 7 p 1 = (x : Int)
        · rw [if_pos ⟨by omega, by omega⟩, if_pos ⟨e.1, e.2, ht⟩, ← hN3 b hb x hx, show (S.2 7 p 0).toNat = b by omega, show (S.2 7 p 1).toNat = x by omega]
        · rw [if_neg (fun z => e ⟨by omega, by omega⟩), if_neg (fun z => e ⟨z.1, z.2.1⟩), hN3 b hb x hx, Int64.sub_zero]
set_option maxRecDepth 20000 in
theorem l_F_spreadForces_2 {G : zG} (C : zC G b_F_spreadForces "OldBeams$Frame" none 3 2 60) (hS : G.1 = sX) (M : zM) (S : zS) (hR : RX S M) (hO : ok S) (q : Nat) (hq : q < 256) (hQ : G.2.2.1 = zPv (fun M2 => M2.1 = M.1 ∧ (∀ a, ¬ (45 ≤ a ∧ (a - 45) % 7 = 5) → M2.2 a = M.2 a) ∧ hF S (fP S (fun p => q.testBit (7 - p)) (S.1 3)) M2)) : ∀ (n : Nat) (i : Nat) (N : zM), (i ≤ S.1 0) → (N.1 = M.1) → ((∀ a, ¬ (45 ≤ a ∧ (a - 45) % 7 = 5) → N.2 a = M.2 a)) → (∀ b, b < i → ∀ x : Nat, (x : Int) ≤ S.2 2 b 1 → N.2 (45 + 7 * b + 5) x = fL S (S.1 1) b x) → (S.1 0 - i < n) → VJ G N 2 [some (.ref (zad G 1)), some (.int (iI (q : Int))), some (.int (iI (i : Int)))] [] := by
  intro n
  induction n with
  | zero =>
    intro i N hi hN1 hN2 hN3 hn
    exact absurd hn (by omega)
  | succ n ih =>
    intro i N hi hN1 hN2 hN3 hn
    have h12 := hO.1
    have hcnt := hR.n
    refine r_ild2 C (pc := 2) d_F_spreadForces_2 ?_
    refine r_ald0 C (pc := 3) d_F_spreadForces_3 ?_
    refine gX_F_beamCount C (pc := 4) hS k_97 d_F_spreadForces_4 ?_
    rw [hN1, hcnt]
    refine r_icmp_ge C (pc := 7) (tgt := 25) (by omega) (by omega) d_F_spreadForces_7 (by decide) (fun c7 => ?_) (fun c7 => ?_)
    · refine r_iconst C (pc := 25) d_F_spreadForces_25 ?_
      refine r_ist2 C (pc := 26) rfl d_F_spreadForces_26 ?_
      exact l_F_spreadForces_27 C hS M S hR hO q hq hQ (S.1 3 + 1) 0 N (by omega) hN1 hN2 (fun b hb x hx => hN3 b (by omega) x hx) (by omega)
    · have hbo := (hO.2.2.1 i (by omega)).2.1
      have hL : N.1 (45 + 7 * i) 1 = ((S.2 2 i 1).toNat : Int) := by rw [hN1, (hR.2.2.1 i (by omega)).1.2.1]; omega
      refine r_ald0 C (pc := 10) d_F_spreadForces_10 ?_
      refine gX_F_beams C (pc := 11) hS k_95 d_F_spreadForces_11 ?_
      refine r_ild2 C (pc := 14) d_F_spreadForces_14 ?_
      refine X_beamsN C (pc := 15) hS (i) (by omega) (by omega) d_F_spreadForces_15 ?_
      refine call_B_takeLoads C (pc := 16) hS (by omega) (c_B_takeLoads _ _ N i (by omega) _ hL (by omega)) k_352 (by decide) (Nat.le_of_ble_eq_true rfl) rfl d_F_spreadForces_16 (kkV (fun N16 h16 => ?_))
      subst h16
      refine r_iinc2 C (pc := 19) rfl d_F_spreadForces_19 ?_
      refine r_goto C (pc := 22) (tgt := 2) d_F_spreadForces_22 (by decide) ?_
      refine ih (i + 1) _ (by omega) hN1 (fun a ha => ?_) (fun b hb x hx => ?_) (by omega)
      · rw [← hN2 a ha]
        funext y
        show (if a = 45 + 7 * i + 5 ∧ y < (S.2 2 i 1).toNat + 1 then N.2 (45 + 7 * i + 4) y else N.2 a y) = _
        rw [if_neg (by omega)]
      · show (if 45 + 7 * b + 5 = 45 + 7 * i + 5 ∧ x < (S.2 2 i 1).toNat + 1 then N.2 (45 + 7 * i + 4) x else N.2 (45 + 7 * b + 5) x) = _
        by_cases e : b = i
        · subst e
          rw [if_pos ⟨rfl, by omega⟩, hN2 _ (by omega)]
          exact (hR.2.2.2.1 b (by omega)).2 x (by omega)
        · rw [if_neg (by omega)]
          exact hN3 b (by omega) x hx
set_option maxRecDepth 20000 in
theorem c_F_spreadForces (l : Launch) (E : zE) (M : zM) (S : zS) (hR : RX S M) (hO : ok S) (q : Nat) (hq : q < 256) : zK l sX E y_F_spreadForces b_F_spreadForces 3 none 2 60 [.ref (E.2.2 1), .int (iI (q : Int))] M (zPv (fun M2 => M2.1 = M.1 ∧ (∀ a, ¬ (45 ≤ a ∧ (a - 45) % 7 = 5) → M2.2 a = M.2 a) ∧ hF S (fP S (fun p => q.testBit (7 - p)) (S.1 3)) M2)) := by
  refine zK.of "OldBeams$Frame" rfl (by decide) (Nat.le_of_ble_eq_true rfl) ?_
  intro G hS hE hQ hL C
  subst hE
  subst hL
  show VJ G M 0 [some (.ref (G.2.1.2.2 1)), some (.int (iI (q : Int))), none] []
  refine r_iconst C (pc := 0) d_F_spreadForces_0 ?_
  refine r_ist2 C (pc := 1) rfl d_F_spreadForces_1 ?_
  exact l_F_spreadForces_2 C hS M S hR hO q hq hQ (S.1 0 + 1) 0 M (by omega) rfl (fun _ _ => rfl) (fun b hb => absurd hb (Nat.not_lt_zero b)) (by omega)
set_option maxRecDepth 20000 in
theorem c_F_reckonBeam (l : Launch) (E : zE) (M : zM) (S : zS) (hR : RX S M) (hO : ok S) (b : Nat) (hb : b < S.1 0) (F : Nat → Nat → Int64) (hf : hF S F M) : zK l sX E y_F_reckonBeam b_F_reckonBeam 4 none 2 51 [.ref (E.2.2 1), .ref (E.2.2 (45 + 7 * b))] M (zPv (fun M2 => bX M M2 ∧ hF S (stp S F b) M2 ∧ (M2.2 (45 + 7 * b + 6) 0 = p0 S F b ∧ M2.2 (45 + 7 * b + 6) 1 = p1 S F b ∧ M2.2 (45 + 7 * b) 11 = (grN (bd S (F b) (p0 S F b) (p1 S F b) b) ((S.2 2 b 1).toNat + 1)).1 ∧ M2.1 (45 + 7 * b) 12 = ((grN (bd S (F b) (p0 S F b) (p1 S F b) b) ((S.2 2 b 1).toNat + 1)).2 : Int)) ∧ (∀ c, c ≠ b → M2.2 (45 + 7 * c + 6) = M.2 (45 + 7 * c + 6) ∧ M2.2 (45 + 7 * c) = M.2 (45 + 7 * c) ∧ M2.1 (45 + 7 * c) 12 = M.1 (45 + 7 * c) 12))) := by
  refine zK.of "OldBeams$Frame" rfl (by decide) (Nat.le_of_ble_eq_true rfl) ?_
  intro G hS hE hQ hL C
  subst hE
  subst hL
  show VJ G M 0 [some (.ref (G.2.1.2.2 1)), some (.ref (G.2.1.2.2 (45 + 7 * b))), none, none] []
  have hn := hO.n
  have hbo := hO.2.2.1 b hb
  obtain ⟨⟨-, e1, -⟩, hrs⟩ := hR.2.2.1 b hb
  obtain ⟨-, hl6, -, -, hpl0, hpl1, hap, hs0, hs1⟩ := hbo
  have hL : M.1 (45 + 7 * b) 1 = ((S.2 2 b 1).toNat : Int) := by rw [e1]; omega
  have hq0 := (hrs 0 (by omega)).1
  have hs0x : S.2 4 b 0 = -900009 ∨ S.2 2 (S.2 4 b 0).toNat 1 ≤ 60 := by
    rcases hs0 with h | h
    · exact Or.inl h
    · exact Or.inr (hO.2.2.1 (S.2 4 b 0).toNat (by omega)).2.1.2
  have hs1x : S.2 4 b 1 = -900009 ∨ S.2 2 (S.2 4 b 1).toNat 1 ≤ 60 := by
    rcases hs1 with h | h
    · exact Or.inl h
    · exact Or.inr (hO.2.2.1 (S.2 4 b 1).toNat (by omega)).2.1.2
  have hq1 := (hrs 1 (by omega)).1
  have eq1 : fdv (sm (fun x => M.2 (45 + 7 * b + 5) x * lI ((x : Int) - M.1 (45 + 7 * b + 1) 0)) ((S.2 2 b 1).toNat + 1)) (lI (M.1 (45 + 7 * b + 1) 1 - M.1 (45 + 7 * b + 1) 0)) = p1 S F b := by
    unfold p1 tu
    rw [hq0, hq1, sm_cong (f := fun x => M.2 (45 + 7 * b + 5) x * lI ((x : Int) - S.2 3 b 0)) (g := fun x => F b x * lI ((x : Int) - S.2 3 b 0)) (fun k hk => by rw [hf b hb k (by omega)])]
  have eq0 : sm (fun x => M.2 (45 + 7 * b + 5) x) ((S.2 2 b 1).toNat + 1) - p1 S F b = p0 S F b := by
    unfold p0
    rw [sm_cong (f := fun x => M.2 (45 + 7 * b + 5) x) (g := F b) (fun k hk => hf b hb k (by omega))]
  refine r_ald1 C (pc := 0) d_F_reckonBeam_0 ?_
  refine call_B_reckonPushes C (pc := 1) hS (by omega) (c_B_reckonPushes _ _ M b (by omega) _ hL (by omega) (by omega) (by omega) (by omega)) k_366 (by decide) (Nat.le_of_ble_eq_true rfl) rfl d_F_reckonBeam_1 (kkV (fun N1 h1 => ?_))
  rw [eq1, eq0] at h1
  subst h1
  have hL2 : (zJ (zJ M (45 + 7 * b + 6) 1 (p1 S F b)) (45 + 7 * b + 6) 0 (p0 S F b)).1 (45 + 7 * b) 1 = ((S.2 2 b 1).toNat : Int) := hL
  refine r_ald1 C (pc := 4) d_F_reckonBeam_4 ?_
  refine call_B_reckonGreatest C (pc := 5) hS (by omega) (c_B_reckonGreatest _ _ _ b (by omega) _ hL2 (by omega) (by show 0 ≤ M.1 (45 + 7 * b + 1) 0 ∧ M.1 (45 + 7 * b + 1) 0 ≤ 60; omega) (by show 0 ≤ M.1 (45 + 7 * b + 1) 1 ∧ M.1 (45 + 7 * b + 1) 1 ≤ 60; omega) (by show M.1 (45 + 7 * b + 1) 0 < M.1 (45 + 7 * b + 1) 1; omega)) k_373 (by decide) (Nat.le_of_ble_eq_true rfl) rfl d_F_reckonBeam_5 (kkV (fun N5 h5 => ?_))
  rw [grN_cong (g := bd S (F b) (p0 S F b) (p1 S F b) b) _ (fun j hj => by
    show bdG _ (M.1 (45 + 7 * b + 1) 0) (M.1 (45 + 7 * b + 1) 1) _ _ j = bdG (F b) (S.2 3 b 0) (S.2 3 b 1) (p0 S F b) (p1 S F b) j
    rw [hq0, hq1, zJ_same, zJ_row (by decide), zJ_same]
    exact bdG_cong (fun p hp => by rw [zJ_ne (by omega), zJ_ne (by omega)]; exact hf b hb p (by omega)))] at h5
  have hx : bX M N5 := by rw [← h5]; exact bXI (bXJ (bXJ (bXJ (bX.rf M) (by omega)) (by omega)) (by omega))
  have hf1 : hF S F N5 := by rw [← h5]; exact fun c hc y hy => by rw [zI_2, zJ_ne (by omega), zJ_ne (by omega), zJ_ne (by omega)]; exact hf c hc y hy
  have hj : (N5.2 (45 + 7 * b + 6) 0 = p0 S F b ∧ N5.2 (45 + 7 * b + 6) 1 = p1 S F b ∧ N5.2 (45 + 7 * b) 11 = (grN (bd S (F b) (p0 S F b) (p1 S F b) b) ((S.2 2 b 1).toNat + 1)).1 ∧ N5.1 (45 + 7 * b) 12 = ((grN (bd S (F b) (p0 S F b) (p1 S F b) b) ((S.2 2 b 1).toNat + 1)).2 : Int)) := by rw [← h5]; exact ⟨by rw [zI_2, zJ_ne (by omega), zJ_same], by rw [zI_2, zJ_ne (by omega), zJ_row (by decide), zJ_same], by rw [zI_2, zJ_same], zI_same _ _ _ _⟩
  have ho2 : (∀ c, c ≠ b → N5.2 (45 + 7 * c + 6) = M.2 (45 + 7 * c + 6) ∧ N5.2 (45 + 7 * c) = M.2 (45 + 7 * c) ∧ N5.1 (45 + 7 * c) 12 = M.1 (45 + 7 * c) 12) := by rw [← h5]; exact fun c hc => ⟨by rw [zI_2, zJ_fn (by omega), zJ_fn (by omega), zJ_fn (by omega)], by rw [zI_2, zJ_fn (by omega), zJ_fn (by omega), zJ_fn (by omega)], by rw [zI_ne (by omega)]; rfl⟩
  have hRN := RXb hR hx
  have hrn := (hRN.2.2.1 b hb).2
  have hnn := hRN.n
  have K1 : ∀ N : zM, bX M N → hF S (adF F (S.2 4 b 0) (S.2 5 b 0) (p0 S F b)) N → (N.2 (45 + 7 * b + 6) 0 = p0 S F b ∧ N.2 (45 + 7 * b + 6) 1 = p1 S F b ∧ N.2 (45 + 7 * b) 11 = (grN (bd S (F b) (p0 S F b) (p1 S F b) b) ((S.2 2 b 1).toNat + 1)).1 ∧ N.1 (45 + 7 * b) 12 = ((grN (bd S (F b) (p0 S F b) (p1 S F b) b) ((S.2 2 b 1).toNat + 1)).2 : Int)) → (∀ c, c ≠ b → N.2 (45 + 7 * c + 6) = M.2 (45 + 7 * c + 6) ∧ N.2 (45 + 7 * c) = M.2 (45 + 7 * c) ∧ N.1 (45 + 7 * c) 12 = M.1 (45 + 7 * c) 12) → VJ G N 10 [some (.ref (zad G 1)), some (.ref (zad G (45 + 7 * b))), some (.int (iI (0 + 1))), none] [] := by
    intro N hx hf1 hj ho2
    have hRN := RXb hR hx
    have hrn := (hRN.2.2.1 b hb).2
    have hnn := hRN.n
    refine r_ild2 C (pc := 10) d_F_reckonBeam_10 ?_
    refine r_iconst C (pc := 11) d_F_reckonBeam_11 ?_
    refine r_icmp_ge C (pc := 12) (tgt := 61) (by omega) (by omega) d_F_reckonBeam_12 (by decide) (fun c12 => ?_) (fun c12 => ?_)
    · exact absurd c12 (by decide)
    · refine r_ald1 C (pc := 15) d_F_reckonBeam_15 ?_
      refine gX_B_on C (pc := 16) hS (by omega) k_48 d_F_reckonBeam_16 ?_
      refine r_ild2 C (pc := 19) d_F_reckonBeam_19 ?_
      refine X_ialdN C (pc := 20) hS (1) (by omega) (shB2 _) (by omega) (by omega) (by decide) d_F_reckonBeam_20 ?_
      first | rw [(hrn 0 (by omega)).2.1] | rw [(hrn 1 (by omega)).2.1]
      refine r_ist3 C (pc := 21) rfl d_F_reckonBeam_21 ?_
      refine r_ald0 C (pc := 22) d_F_reckonBeam_22 ?_
      refine r_ild3 C (pc := 23) d_F_reckonBeam_23 ?_
      refine call_F_hasBeam C (pc := 24) hS (c_F_hasBeam _ _ _ _ (by omega) (by omega)) k_266 (by decide) (Nat.le_of_ble_eq_true rfl) rfl d_F_reckonBeam_24 (kkI (fun r24 N24 h24 => ?_))
      obtain ⟨rfl, rfl⟩ := h24
      rw [hnn]
      refine r_ifeqB C (pc := 27) (tgt := 55) d_F_reckonBeam_27 (by decide) (fun c27 => ?_) (fun c27 => ?_)
      · have e9 : S.2 4 b 1 = -900009 := by omega
        refine r_iinc2 C (pc := 55) rfl d_F_reckonBeam_55 ?_
        refine r_goto C (pc := 58) (tgt := 10) d_F_reckonBeam_58 (by decide) ?_
        refine r_ild2 C (pc := 10) d_F_reckonBeam_10 ?_
        refine r_iconst C (pc := 11) d_F_reckonBeam_11 ?_
        refine r_icmp_ge C (pc := 12) (tgt := 61) (by omega) (by omega) d_F_reckonBeam_12 (by decide) (fun c12b => ?_) (fun c12b => ?_)
        · exact r_vret C (pc := 61) hQ (⟨hx, by unfold stp; rw [e9]; exact hf1, hj, ho2⟩) d_F_reckonBeam_61
        · exact absurd c12b (by decide)
      · refine r_ald0 C (pc := 30) d_F_reckonBeam_30 ?_
        refine gX_F_beams C (pc := 31) hS k_95 d_F_reckonBeam_31 ?_
        refine r_ild3 C (pc := 34) d_F_reckonBeam_34 ?_
        refine X_beams C (pc := 35) hS (by omega) (by omega) d_F_reckonBeam_35 ?_
        refine gX_B_forces C (pc := 36) hS (by omega) k_54 d_F_reckonBeam_36 ?_
        refine r_ald1 C (pc := 39) d_F_reckonBeam_39 ?_
        refine gX_B_where C (pc := 40) hS (by omega) k_50 d_F_reckonBeam_40 ?_
        refine r_ild2 C (pc := 43) d_F_reckonBeam_43 ?_
        refine X_ialdN C (pc := 44) hS (1) (by omega) (shB3 _) (by omega) (by omega) (by decide) d_F_reckonBeam_44 ?_
        first | rw [(hrn 0 (by omega)).2.2 (by omega)] | rw [(hrn 1 (by omega)).2.2 (by omega)]
        refine r_dup2 C (pc := 45) rfl rfl d_F_reckonBeam_45 ?_
        refine X_lald C (pc := 46) hS (shB5 _) (by omega) (by omega) (by omega) (by decide) d_F_reckonBeam_46 ?_
        refine r_ald1 C (pc := 47) d_F_reckonBeam_47 ?_
        refine gX_B_push C (pc := 48) hS (by omega) k_57 d_F_reckonBeam_48 ?_
        refine r_ild2 C (pc := 51) d_F_reckonBeam_51 ?_
        refine X_laldN C (pc := 52) hS (1) (by omega) (shB6 _) (by omega) (by omega) (by decide) d_F_reckonBeam_52 ?_
        first | rw [hj.1] | rw [hj.2.1]
        refine r_ladd C (pc := 53) d_F_reckonBeam_53 ?_
        refine X_last C (pc := 54) hS (shB5 _) (by omega) (by omega) (by omega) (by decide)  d_F_reckonBeam_54 ?_
        refine r_iinc2 C (pc := 55) rfl d_F_reckonBeam_55 ?_
        refine r_goto C (pc := 58) (tgt := 10) d_F_reckonBeam_58 (by decide) ?_
        refine r_ild2 C (pc := 10) d_F_reckonBeam_10 ?_
        refine r_iconst C (pc := 11) d_F_reckonBeam_11 ?_
        refine r_icmp_ge C (pc := 12) (tgt := 61) (by omega) (by omega) d_F_reckonBeam_12 (by decide) (fun c12b => ?_) (fun c12b => ?_)
        · exact r_vret C (pc := 61) hQ (⟨bXJ hx (by omega), hFad hf1 (by omega) (by omega) rfl, ⟨by rw [zJ_ne (by omega)]; exact hj.1, by rw [zJ_ne (by omega)]; exact hj.2.1, by rw [zJ_ne (by omega)]; exact hj.2.2.1, hj.2.2.2⟩, fun c hc => ⟨(zJ_fn (by omega)).trans (ho2 c hc).1, (zJ_fn (by omega)).trans (ho2 c hc).2.1, (ho2 c hc).2.2⟩⟩) d_F_reckonBeam_61
        · exact absurd c12b (by decide)
  refine r_iconst C (pc := 8) d_F_reckonBeam_8 ?_
  refine r_ist2 C (pc := 9) rfl d_F_reckonBeam_9 ?_
  refine r_ild2 C (pc := 10) d_F_reckonBeam_10 ?_
  refine r_iconst C (pc := 11) d_F_reckonBeam_11 ?_
  refine r_icmp_ge C (pc := 12) (tgt := 61) (by omega) (by omega) d_F_reckonBeam_12 (by decide) (fun c12 => ?_) (fun c12 => ?_)
  · exact absurd c12 (by decide)
  · refine r_ald1 C (pc := 15) d_F_reckonBeam_15 ?_
    refine gX_B_on C (pc := 16) hS (by omega) k_48 d_F_reckonBeam_16 ?_
    refine r_ild2 C (pc := 19) d_F_reckonBeam_19 ?_
    refine X_ialdN C (pc := 20) hS (0) (by omega) (shB2 _) (by omega) (by omega) (by decide) d_F_reckonBeam_20 ?_
    first | rw [(hrn 0 (by omega)).2.1] | rw [(hrn 1 (by omega)).2.1]
    refine r_ist3 C (pc := 21) rfl d_F_reckonBeam_21 ?_
    refine r_ald0 C (pc := 22) d_F_reckonBeam_22 ?_
    refine r_ild3 C (pc := 23) d_F_reckonBeam_23 ?_
    refine call_F_hasBeam C (pc := 24) hS (c_F_hasBeam _ _ _ _ (by omega) (by omega)) k_266 (by decide) (Nat.le_of_ble_eq_true rfl) rfl d_F_reckonBeam_24 (kkI (fun r24 N24 h24 => ?_))
    obtain ⟨rfl, rfl⟩ := h24
    rw [hnn]
    refine r_ifeqB C (pc := 27) (tgt := 55) d_F_reckonBeam_27 (by decide) (fun c27 => ?_) (fun c27 => ?_)
    · have e9 : S.2 4 b 0 = -900009 := by omega
      refine r_iinc2 C (pc := 55) rfl d_F_reckonBeam_55 ?_
      refine r_goto C (pc := 58) (tgt := 10) d_F_reckonBeam_58 (by decide) ?_
      refine r_weak ?_ (K1 _ hx (by unfold adF; rw [if_pos e9]; exact hf1) hj ho2)
      exact ⟨Or.inr rfl, Or.inr rfl, Or.inr rfl, Or.inl rfl, trivial⟩
    · refine r_ald0 C (pc := 30) d_F_reckonBeam_30 ?_
      refine gX_F_beams C (pc := 31) hS k_95 d_F_reckonBeam_31 ?_
      refine r_ild3 C (pc := 34) d_F_reckonBeam_34 ?_
      refine X_beams C (pc := 35) hS (by omega) (by omega) d_F_reckonBeam_35 ?_
      refine gX_B_forces C (pc := 36) hS (by omega) k_54 d_F_reckonBeam_36 ?_
      refine r_ald1 C (pc := 39) d_F_reckonBeam_39 ?_
      refine gX_B_where C (pc := 40) hS (by omega) k_50 d_F_reckonBeam_40 ?_
      refine r_ild2 C (pc := 43) d_F_reckonBeam_43 ?_
      refine X_ialdN C (pc := 44) hS (0) (by omega) (shB3 _) (by omega) (by omega) (by decide) d_F_reckonBeam_44 ?_
      first | rw [(hrn 0 (by omega)).2.2 (by omega)] | rw [(hrn 1 (by omega)).2.2 (by omega)]
      refine r_dup2 C (pc := 45) rfl rfl d_F_reckonBeam_45 ?_
      refine X_lald C (pc := 46) hS (shB5 _) (by omega) (by omega) (by omega) (by decide) d_F_reckonBeam_46 ?_
      refine r_ald1 C (pc := 47) d_F_reckonBeam_47 ?_
      refine gX_B_push C (pc := 48) hS (by omega) k_57 d_F_reckonBeam_48 ?_
      refine r_ild2 C (pc := 51) d_F_reckonBeam_51 ?_
      refine X_laldN C (pc := 52) hS (0) (by omega) (shB6 _) (by omega) (by omega) (by decide) d_F_reckonBeam_52 ?_
      first | rw [hj.1] | rw [hj.2.1]
      refine r_ladd C (pc := 53) d_F_reckonBeam_53 ?_
      refine X_last C (pc := 54) hS (shB5 _) (by omega) (by omega) (by omega) (by decide)  d_F_reckonBeam_54 ?_
      refine r_iinc2 C (pc := 55) rfl d_F_reckonBeam_55 ?_
      refine r_goto C (pc := 58) (tgt := 10) d_F_reckonBeam_58 (by decide) ?_
      refine r_weak ?_ (K1 _ (bXJ hx (by omega)) (hFad hf1 (by omega) (by omega) rfl) ⟨by rw [zJ_ne (by omega)]; exact hj.1, by rw [zJ_ne (by omega)]; exact hj.2.1, by rw [zJ_ne (by omega)]; exact hj.2.2.1, hj.2.2.2⟩ (fun c hc => ⟨(zJ_fn (by omega)).trans (ho2 c hc).1, (zJ_fn (by omega)).trans (ho2 c hc).2.1, (ho2 c hc).2.2⟩))
      exact ⟨Or.inr rfl, Or.inr rfl, Or.inr rfl, Or.inl rfl, trivial⟩
