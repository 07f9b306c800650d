/-- the reference's odds change nothing else -/
def kO (M N : zM) : Prop := (∀ a i, ¬ (a = 0 ∧ i = 38) → N.1 a i = M.1 a i) ∧ ∀ a, a ≠ 33 → a ≠ 34 → a ≠ 0 → N.2 a = M.2 a
theorem kO.rf (M : zM) : kO M M := ⟨fun _ _ _ => rfl, fun _ _ _ _ => rfl⟩
theorem kO.tr {M N O : zM} (h : kO M N) (g : kO N O) : kO M O := ⟨fun a i q => (g.1 a i q).trans (h.1 a i q), fun a q q2 q3 => (g.2 a q q2 q3).trans (h.2 a q q2 q3)⟩
theorem kO.k {M N : zM} (h : kO M N) : kM M N := fun a i q => h.1 a i (by omega)
theorem kO.j {S : zS} {ps dw : Nat → Bool} {M N : zM} {b : Nat} (h : kO M N) (g : hJm S ps dw M b) : hJm S ps dw N b := by
  unfold hJm at g ⊢
  rw [h.2 24 (by decide) (by decide) (by decide), h.2 25 (by decide) (by decide) (by decide), h.1 26 b (by omega)]
  exact g
theorem gcN_succ' (g : Nat → Nat) (n : Nat) : Nat.gcd (g n) (gcN g n) = gcN g (n + 1) := Nat.gcd_comm _ _
theorem nx_bnd {S : zS} (hO : ok S) {f : Nat → Nat} (hf : ∀ t, t < 11 → f t < 2 ^ 33) {l : Nat} (hl : l < S.1 2) {t : Nat} (ht : t < 11) : nxO S f l t < 2 ^ 37 := by
  have h1 := cmS_le hO (hO.2.2.2.2.2.2.2.2.2.2.1 l hl).2.1 (oc := S.2 10 l 2) ht
  have h2 := hf t ht
  have h3 : f t * cmS S (S.2 10 l 1) (S.2 10 l 2) t ≤ f t * 9 := Nat.mul_le_mul_left _ h1
  unfold nxO
  omega
theorem gc_bnd {g : Nat → Nat} {B : Nat} (h : ∀ t, t < 11 → g t < B) (n : Nat) (hn : n ≤ 11) : gcN g n < B + 1 := by
  have := gcN_le (g := g) (B := B) (fun k hk => Nat.le_of_lt (h k hk)) n hn
  omega
set_option maxRecDepth 20000 in
theorem l_M_takeLook_95 {G : zG} (C : zC G b_M_takeLook "OldBeamsModel" none 5 1 29) (hS : G.1 = sM) (M : zM) (S : zS) (hR : RM S M) (hO : ok S) (w : Nat) (hw : w < S.1 2) (f : Nat → Nat) (hf : ∀ t, t < 11 → f t < 2 ^ 33) (hof : ∀ t, t < 11 → M.2 33 t = lN (f t)) (hq : -900009 ≤ M.1 0 38 ∧ M.1 0 38 ≤ 60) (hQ : G.2.2.1 = zPv (fun M2 => kO M M2 ∧ (gcN (nxO S f w) 11 = 0 → M2.1 0 38 = (if M.1 0 38 = -900009 then (w : Int) else M.1 0 38) ∧ ∀ t, t < 11 → M2.2 33 t = lN (f t)) ∧ (gcN (nxO S f w) 11 ≠ 0 → M2.1 0 38 = M.1 0 38 ∧ ∀ t, t < 11 → M2.2 33 t = lN (nxO S f w t / gcN (nxO S f w) 11)))) : ∀ (n : Nat) (j : Nat) (N : zM), (j ≤ 11) → (gcN (nxO S f w) 11 ≠ 0) → (N.1 = M.1) → (∀ a, a ≠ 33 → a ≠ 34 → a ≠ 0 → N.2 a = M.2 a) → (∀ t, t < 11 → N.2 34 t = lN (nxO S f w t)) → (∀ t, t < j → N.2 33 t = lN (nxO S f w t / gcN (nxO S f w) 11)) → (11 - j < n) → VJ G N 95 [some (.ref (zad G 0)), some (.int (iI (w : Int))), some (.long (lN (gcN (nxO S f w) 11))), none, some (.int (iI (j : Int)))] [] := by
  intro n
  induction n with
  | zero =>
    intro j N hj hg g1 g2 g3 g4 hn
    exact absurd hn (by omega)
  | succ n ih =>
    intro j N hj hg g1 g2 g3 g4 hn
    have hcap := hO.1
    have hlo := hO.2.2.2.2.2.2.2.2.2.2.1 w hw
    have hlr := hR.2.2.2.2.2.2.2.2.2.2.1 w hw
    have hgb := gc_bnd (g := nxO S f w) (B := 2 ^ 37) (fun t ht => nx_bnd hO hf hw ht) 11 (Nat.le_refl _)
    refine r_ild4 C (pc := 95) d_M_takeLook_95 ?_
    refine r_bipush C (pc := 97) (n := 11) rfl d_M_takeLook_97 ?_
    refine r_icmp_ge C (pc := 99) (tgt := 124) (by omega) (by omega) d_M_takeLook_99 (by decide) (fun c99 => ?_) (fun c99 => ?_)
    · exact r_vret C (pc := 124) hQ (⟨⟨fun a i _ => by rw [g1], g2⟩, fun q => absurd q hg, fun _ => ⟨by rw [g1], fun t ht => g4 t (by omega)⟩⟩) d_M_takeLook_124
    · refine r_ald0 C (pc := 102) d_M_takeLook_102 ?_
      refine gM_M_odds C (pc := 103) hS k_672 d_M_takeLook_103 ?_
      refine r_ild4 C (pc := 106) d_M_takeLook_106 ?_
      refine r_ald0 C (pc := 108) d_M_takeLook_108 ?_
      refine gM_M_next C (pc := 109) hS k_673 d_M_takeLook_109 ?_
      refine r_ild4 C (pc := 112) d_M_takeLook_112 ?_
      refine M_laldN C (pc := 114) hS (j) (by omega) rfl (by decide) (by omega) (by decide) d_M_takeLook_114 ?_
      rw [g3 j (by omega)]
      refine r_lld2 C (pc := 115) d_M_takeLook_115 ?_
      refine r_ldiv C (pc := 116) (lN_ne (by omega) (by omega)) d_M_takeLook_116 ?_
      refine r_topl (pk_lDiv (by have := nx_bnd hO hf hw (t := j) (by omega); omega) (by omega) (by omega)) ?_
      refine M_lastN C (pc := 117) hS (j) (by omega) rfl (by decide) (by omega) (by decide)  d_M_takeLook_117 ?_
      refine r_iinc4 C (pc := 118) rfl d_M_takeLook_118 ?_
      refine r_goto C (pc := 121) (tgt := 95) d_M_takeLook_121 (by decide) ?_
      exact ih (j + 1) _ (by omega) hg g1 (fun a q q2 q3 => (zJ_fn q).trans (g2 a q q2 q3)) (fun t ht => by rw [zJ_ne (by decide)]; exact g3 t ht) (fun t ht => by
        by_cases e : t = j
        · rw [e, zJ_same]
        · rw [zJ_row e]; exact g4 t (by omega)) (by omega)
set_option maxRecDepth 20000 in
theorem l_M_takeLook_5 {G : zG} (C : zC G b_M_takeLook "OldBeamsModel" none 5 1 29) (hS : G.1 = sM) (M : zM) (S : zS) (hR : RM S M) (hO : ok S) (w : Nat) (hw : w < S.1 2) (f : Nat → Nat) (hf : ∀ t, t < 11 → f t < 2 ^ 33) (hof : ∀ t, t < 11 → M.2 33 t = lN (f t)) (hq : -900009 ≤ M.1 0 38 ∧ M.1 0 38 ≤ 60) (hQ : G.2.2.1 = zPv (fun M2 => kO M M2 ∧ (gcN (nxO S f w) 11 = 0 → M2.1 0 38 = (if M.1 0 38 = -900009 then (w : Int) else M.1 0 38) ∧ ∀ t, t < 11 → M2.2 33 t = lN (f t)) ∧ (gcN (nxO S f w) 11 ≠ 0 → M2.1 0 38 = M.1 0 38 ∧ ∀ t, t < 11 → M2.2 33 t = lN (nxO S f w t / gcN (nxO S f w) 11)))) : ∀ (n : Nat) (j : Nat) (N : zM), (j ≤ 11) → (N.1 = M.1) → (∀ a, a ≠ 34 → N.2 a = M.2 a) → (∀ t, t < j → N.2 34 t = lN (nxO S f w t)) → (11 - j < n) → VJ G N 5 [some (.ref (zad G 0)), some (.int (iI (w : Int))), some (.long (lN (gcN (nxO S f w) j))), none, some (.int (iI (j : Int)))] [] := by
  intro n
  induction n with
  | zero =>
    intro j N hj g1 g2 g3 hn
    exact absurd hn (by omega)
  | succ n ih =>
    intro j N hj g1 g2 g3 hn
    have hcap := hO.1
    have hlo := hO.2.2.2.2.2.2.2.2.2.2.1 w hw
    have hlr := hR.2.2.2.2.2.2.2.2.2.2.1 w hw
    have hRN : RM S N := RMk hR hO (kM_J g1)
    obtain ⟨k, ek⟩ := Int.eq_ofNat_of_zero_le hlo.2.1.1
    refine r_ild4 C (pc := 5) d_M_takeLook_5 ?_
    refine r_bipush C (pc := 7) (n := 11) rfl d_M_takeLook_7 ?_
    refine r_icmp_ge C (pc := 9) (tgt := 64) (by omega) (by omega) d_M_takeLook_9 (by decide) (fun c9 => ?_) (fun c9 => ?_)
    · refine r_lld2 C (pc := 64) d_M_takeLook_64 ?_
      refine r_lconst C (pc := 65) (v := 0) rfl d_M_takeLook_65 ?_
      refine r_lcmp_ne C (pc := 66) (tgt := 92) d_M_takeLook_66 d_M_takeLook_67 (by decide) (fun c66 => ?_) (fun c66 => ?_)
      · have ej : j = 11 := by omega
        subst ej
        have hg0 : gcN (nxO S f w) 11 ≠ 0 := fun q => c66 (by rw [q]; rfl)
        refine r_iconst C (pc := 92) d_M_takeLook_92 ?_
        refine r_ist4 C (pc := 93) rfl d_M_takeLook_93 ?_
        exact l_M_takeLook_95 C hS M S hR hO w hw f hf hof hq hQ 12 0 N (by omega) hg0 g1 (fun a q q2 q3 => g2 a q2) g3 (fun t ht => absurd ht (Nat.not_lt_zero t)) (by omega)
      · have ej : j = 11 := by omega
        subst ej
        have hg0 : gcN (nxO S f w) 11 = 0 := (pk_lEQ (by have := gc_bnd (g := nxO S f w) (B := 2 ^ 37) (fun t ht => nx_bnd hO hf hw ht) 11 (by omega); omega) (by decide)).mp (c66.trans lN_0.symm)
        refine r_ald0 C (pc := 70) d_M_takeLook_70 ?_
        refine r_ald0 C (pc := 71) d_M_takeLook_71 ?_
        refine gM_M_firstQuarrel C (pc := 72) hS k_674 d_M_takeLook_72 ?_
        rw [g1]
        refine r_ldc C (pc := 75) (z := (-900009)) k_796 rfl d_M_takeLook_75 ?_
        refine r_icmp_ne C (pc := 77) (tgt := 84) (by omega) (by omega) d_M_takeLook_77 (by decide) (fun c77 => ?_) (fun c77 => ?_)
        · refine r_ald0 C (pc := 84) d_M_takeLook_84 ?_
          refine gM_M_firstQuarrel C (pc := 85) hS k_674 d_M_takeLook_85 ?_
          rw [g1]
          refine pM_M_firstQuarrel C (pc := 88) hS k_674 d_M_takeLook_88 ?_
          exact r_vret C (pc := 91) hQ (⟨⟨fun a i q => by rw [zI_o q, g1], fun a q q2 q3 => g2 a q2⟩, fun _ => ⟨by rw [zI_same]; first | rw [if_pos c77] | rw [if_neg c77], fun t ht => (congrFun (g2 33 (by decide)) t).trans (hof t ht)⟩, fun q => absurd hg0 q⟩) d_M_takeLook_91
        · refine r_ild1 C (pc := 80) d_M_takeLook_80 ?_
          refine r_goto C (pc := 81) (tgt := 88) d_M_takeLook_81 (by decide) ?_
          refine pM_M_firstQuarrel C (pc := 88) hS k_674 d_M_takeLook_88 ?_
          exact r_vret C (pc := 91) hQ (⟨⟨fun a i q => by rw [zI_o q, g1], fun a q q2 q3 => g2 a q2⟩, fun _ => ⟨by rw [zI_same]; first | rw [if_pos c77] | rw [if_neg c77], fun t ht => (congrFun (g2 33 (by decide)) t).trans (hof t ht)⟩, fun q => absurd hg0 q⟩) d_M_takeLook_91
    · refine r_ald0 C (pc := 12) d_M_takeLook_12 ?_
      refine gM_M_next C (pc := 13) hS k_673 d_M_takeLook_13 ?_
      refine r_ild4 C (pc := 16) d_M_takeLook_16 ?_
      refine r_ald0 C (pc := 18) d_M_takeLook_18 ?_
      refine gM_M_odds C (pc := 19) hS k_672 d_M_takeLook_19 ?_
      refine r_ild4 C (pc := 22) d_M_takeLook_22 ?_
      refine M_laldN C (pc := 24) hS (j) (by omega) rfl (by decide) (by omega) (by decide) d_M_takeLook_24 ?_
      rw [g2 33 (by decide), hof j (by omega)]
      refine r_ald0 C (pc := 25) d_M_takeLook_25 ?_
      refine r_ald0 C (pc := 26) d_M_takeLook_26 ?_
      refine gM_M_lookTool C (pc := 27) hS k_669 d_M_takeLook_27 ?_
      refine r_ild1 C (pc := 30) d_M_takeLook_30 ?_
      refine M_ialdN C (pc := 31) hS (w) (by omega) rfl (by decide) (by omega) (by decide) d_M_takeLook_31 ?_
      rw [g1, hlr.2.1, ek]
      refine r_ald0 C (pc := 32) d_M_takeLook_32 ?_
      refine gM_M_lookOutcome C (pc := 33) hS k_670 d_M_takeLook_33 ?_
      refine r_ild1 C (pc := 36) d_M_takeLook_36 ?_
      refine M_ialdN C (pc := 37) hS (w) (by omega) rfl (by decide) (by omega) (by decide) d_M_takeLook_37 ?_
      rw [g1, hlr.2.2.1]
      refine r_ild4 C (pc := 38) d_M_takeLook_38 ?_
      refine call_M_comes C (pc := 40) hS (c_M_comes _ _ N S hRN hO k (by omega) (S.2 10 w 2) (by omega) j (by omega)) k_942 (by decide) (Nat.le_of_ble_eq_true rfl) rfl d_M_takeLook_40 (kkI (fun r40 N40 h40 => ?_))
      obtain ⟨rfl, rfl⟩ := h40
      have hcm := cmS_le hO (k := (k : Int)) (oc := S.2 10 w 2) (by omega) (t := j) (by omega)
      refine r_i2l C (pc := 43) (by omega) d_M_takeLook_43 ?_
      rw [lI_nat]
      refine r_lmul C (pc := 44) d_M_takeLook_44 ?_
      rw [lN_mul, ← ek, show f j * cmS S (S.2 10 w 1) (S.2 10 w 2) j = nxO S f w j from rfl]
      refine M_lastN C (pc := 45) hS (j) (by omega) rfl (by decide) (by omega) (by decide)  d_M_takeLook_45 ?_
      refine r_ald0 C (pc := 46) d_M_takeLook_46 ?_
      refine gM_M_next C (pc := 47) hS k_673 d_M_takeLook_47 ?_
      refine r_ild4 C (pc := 50) d_M_takeLook_50 ?_
      refine M_laldN C (pc := 52) hS (j) (by omega) rfl (by decide) (by omega) (by decide) d_M_takeLook_52 ?_
      rw [zJ_same]
      refine r_lld2 C (pc := 53) d_M_takeLook_53 ?_
      refine call_M_common C (pc := 54) hS (c_M_common _ _ _ (nxO S f w j) (gcN (nxO S f w) j) (by have := nx_bnd hO hf hw (t := j) (by omega); omega) (by have := gc_bnd (g := nxO S f w) (B := 2 ^ 37) (fun t ht => nx_bnd hO hf hw ht) j (by omega); omega)) k_946 (by decide) (Nat.le_of_ble_eq_true rfl) rfl d_M_takeLook_54 (kkL (fun r54 N54 h54 => ?_))
      obtain ⟨rfl, rfl⟩ := h54
      rw [gcN_succ']
      refine r_lst2 C (pc := 57) rfl d_M_takeLook_57 ?_
      refine r_iinc4 C (pc := 58) rfl d_M_takeLook_58 ?_
      refine r_goto C (pc := 61) (tgt := 5) d_M_takeLook_61 (by decide) ?_
      exact ih (j + 1) _ (by omega) g1 (fun a q => (zJ_fn q).trans (g2 a q)) (fun t ht => by
        by_cases e : t = j
        · rw [e, zJ_same]
        · rw [zJ_row e]; exact g3 t (by omega)) (by omega)
set_option maxRecDepth 20000 in
theorem c_M_takeLook (l : Launch) (E : zE) (M : zM) (S : zS) (hR : RM S M) (hO : ok S) (w : Nat) (hw : w < S.1 2) (f : Nat → Nat) (hf : ∀ t, t < 11 → f t < 2 ^ 33) (hof : ∀ t, t < 11 → M.2 33 t = lN (f t)) (hq : -900009 ≤ M.1 0 38 ∧ M.1 0 38 ≤ 60) : zK l sM E y_M_takeLook b_M_takeLook 5 none 1 29 [.ref (E.2.2 0), .int (iI (w : Int))] M (zPv (fun M2 => kO M M2 ∧ (gcN (nxO S f w) 11 = 0 → M2.1 0 38 = (if M.1 0 38 = -900009 then (w : Int) else M.1 0 38) ∧ ∀ t, t < 11 → M2.2 33 t = lN (f t)) ∧ (gcN (nxO S f w) 11 ≠ 0 → M2.1 0 38 = M.1 0 38 ∧ ∀ t, t < 11 → M2.2 33 t = lN (nxO S f w t / gcN (nxO S f w) 11)))) := by
  refine zK.of "OldBeamsModel" rfl (by decide) (Nat.le_of_ble_eq_true rfl) ?_
  intro G hS hE hQ hL C
  subst hE
  subst hL
  show VJ G M 0 [some (.ref (G.2.1.2.2 0)), some (.int (iI (w : Int))), none, none, none] []
  refine r_lconst C (pc := 0) (v := 0) rfl d_M_takeLook_0 ?_
  refine r_lst2 C (pc := 1) rfl d_M_takeLook_1 ?_
  refine r_iconst C (pc := 2) d_M_takeLook_2 ?_
  refine r_ist4 C (pc := 3) rfl d_M_takeLook_3 ?_
  exact l_M_takeLook_5 C hS M S hR hO w hw f hf hof hq hQ 12 0 M (by omega) rfl (fun _ _ => rfl) (fun t ht => absurd ht (Nat.not_lt_zero t)) (by omega)
set_option maxRecDepth 20000 in
theorem l_M_layOdds_40 {G : zG} (C : zC G b_M_layOdds "OldBeamsModel" none 4 2 53) (hS : G.1 = sM) (M : zM) (S : zS) (hR : RM S M) (hO : ok S) (b : Nat) (hb : b < S.1 0) (y : Int) (hy : 0 ≤ y ∧ y ≤ 500) (hQ : G.2.2.1 = zPv (fun M2 => kO M M2 ∧ (∀ t, t < 11 → M2.2 33 t = lN (OD S b y t)) ∧ M2.1 0 38 = oQ S b y (S.1 2))) : ∀ (n : Nat) (j : Nat) (N : zM), (j ≤ S.1 2) → (kO M N) → (∀ t, t < 11 → N.2 33 t = lN (oO S b y j t)) → (N.1 0 38 = oQ S b y j) → (S.1 2 - j < n) → VJ G N 40 [some (.ref (zad G 0)), some (.int (iI (b : Int))), some (.int (iI y)), some (.int (iI (j : Int)))] [] := by
  intro n
  induction n with
  | zero =>
    intro j N hj g1 g2 g3 hn
    exact absurd hn (by omega)
  | succ n ih =>
    intro j N hj g1 g2 g3 hn
    have h12 := hO.n
    have hcap := hO.1
    have hRN : RM S N := RMk hR hO g1.k
    have hqr := oQ_rng S b y j
    refine r_ild3 C (pc := 40) d_M_layOdds_40 ?_
    refine r_ald0 C (pc := 41) d_M_layOdds_41 ?_
    refine gM_M_looks C (pc := 42) hS k_667 d_M_layOdds_42 ?_
    rw [hRN.1.2.2.1]
    refine r_icmp_ge C (pc := 45) (tgt := 79) (by omega) (by omega) d_M_layOdds_45 (by decide) (fun c45 => ?_) (fun c45 => ?_)
    · exact r_vret C (pc := 79) hQ (⟨g1, by unfold OD; rw [show S.1 2 = j by omega]; exact g2, by rw [show S.1 2 = j by omega]; exact g3⟩) d_M_layOdds_79
    · have hlo := hO.2.2.2.2.2.2.2.2.2.2.1 j (by omega)
      have hlr := hRN.2.2.2.2.2.2.2.2.2.2.1 j (by omega)
      refine r_ald0 C (pc := 48) d_M_layOdds_48 ?_
      refine gM_M_lookBeam C (pc := 49) hS k_668 d_M_layOdds_49 ?_
      refine r_ild3 C (pc := 52) d_M_layOdds_52 ?_
      refine M_ialdN C (pc := 53) hS (j) (by omega) rfl (by decide) (by omega) (by decide) d_M_layOdds_53 ?_
      rw [hlr.1]
      refine r_ild1 C (pc := 54) d_M_layOdds_54 ?_
      refine r_icmp_ne C (pc := 55) (tgt := 73) (by omega) (by omega) d_M_layOdds_55 (by decide) (fun c55 => ?_) (fun c55 => ?_)
      · have en := oO_no (S := S) (b := b) (y := y) (l := j) (fun q => c55 q.1)
        refine r_iinc3 C (pc := 73) rfl d_M_layOdds_73 ?_
        refine r_goto C (pc := 76) (tgt := 40) d_M_layOdds_76 (by decide) ?_
        first
        | exact ih (j + 1) N70 (by omega) (g1.tr u1) en.1 en.2 (by omega)
        | exact ih (j + 1) N (by omega) g1 (by rw [en.1]; exact g2) (by rw [en.2]; exact g3) (by omega)
      · refine r_ald0 C (pc := 58) d_M_layOdds_58 ?_
        refine gM_M_lookYear C (pc := 59) hS k_671 d_M_layOdds_59 ?_
        refine r_ild3 C (pc := 62) d_M_layOdds_62 ?_
        refine M_ialdN C (pc := 63) hS (j) (by omega) rfl (by decide) (by omega) (by decide) d_M_layOdds_63 ?_
        rw [hlr.2.2.2]
        refine r_ild2 C (pc := 64) d_M_layOdds_64 ?_
        refine r_icmp_gt C (pc := 65) (tgt := 73) (by omega) (by omega) d_M_layOdds_65 (by decide) (fun c65 => ?_) (fun c65 => ?_)
        · have en := oO_no (S := S) (b := b) (y := y) (l := j) (fun q => absurd q.2 (by omega))
          refine r_iinc3 C (pc := 73) rfl d_M_layOdds_73 ?_
          refine r_goto C (pc := 76) (tgt := 40) d_M_layOdds_76 (by decide) ?_
          first
          | exact ih (j + 1) N70 (by omega) (g1.tr u1) en.1 en.2 (by omega)
          | exact ih (j + 1) N (by omega) g1 (by rw [en.1]; exact g2) (by rw [en.2]; exact g3) (by omega)
        · refine r_ald0 C (pc := 68) d_M_layOdds_68 ?_
          refine r_ild3 C (pc := 69) d_M_layOdds_69 ?_
          refine call_M_takeLook C (pc := 70) hS (c_M_takeLook _ _ N S hRN hO j (by omega) (oO S b y j) (fun t ht => oO_33 hO (by omega) y hj ht) g2 (by omega)) k_938 (by decide) (Nat.le_of_ble_eq_true rfl) rfl d_M_layOdds_70 (kkV (fun N70 h70 => ?_))
          obtain ⟨u1, u2, u3⟩ := h70
          have en : (∀ t, t < 11 → N70.2 33 t = lN (oO S b y (j + 1) t)) ∧ N70.1 0 38 = oQ S b y (j + 1) := by
            by_cases hg : gcN (nxO S (oO S b y j) j) 11 = 0
            · obtain ⟨w1, w2⟩ := oO_qu (S := S) (b := b) (y := y) (l := j) (by omega) (by omega) hg
              rw [w1, w2, (u2 hg).1, g3]
              exact ⟨(u2 hg).2, rfl⟩
            · obtain ⟨w1, w2⟩ := oO_yes (S := S) (b := b) (y := y) (l := j) (by omega) (by omega) hg
              rw [w1, w2, (u3 hg).1]
              exact ⟨(u3 hg).2, g3⟩
          refine r_iinc3 C (pc := 73) rfl d_M_layOdds_73 ?_
          refine r_goto C (pc := 76) (tgt := 40) d_M_layOdds_76 (by decide) ?_
          first
          | exact ih (j + 1) N70 (by omega) (g1.tr u1) en.1 en.2 (by omega)
          | exact ih (j + 1) N (by omega) g1 (by rw [en.1]; exact g2) (by rw [en.2]; exact g3) (by omega)
set_option maxRecDepth 20000 in
theorem l_M_layOdds_8 {G : zG} (C : zC G b_M_layOdds "OldBeamsModel" none 4 2 53) (hS : G.1 = sM) (M : zM) (S : zS) (hR : RM S M) (hO : ok S) (b : Nat) (hb : b < S.1 0) (y : Int) (hy : 0 ≤ y ∧ y ≤ 500) (hQ : G.2.2.1 = zPv (fun M2 => kO M M2 ∧ (∀ t, t < 11 → M2.2 33 t = lN (OD S b y t)) ∧ M2.1 0 38 = oQ S b y (S.1 2))) : ∀ (n : Nat) (j : Nat) (N : zM), (j ≤ 11) → (kO M N) → (∀ t, t < j → N.2 33 t = lN (oO S b y 0 t)) → (N.1 0 38 = -900009) → (11 - j < n) → VJ G N 8 [some (.ref (zad G 0)), some (.int (iI (b : Int))), some (.int (iI y)), some (.int (iI (j : Int)))] [] := by
  intro n
  induction n with
  | zero =>
    intro j N hj g1 g2 g3 hn
    exact absurd hn (by omega)
  | succ n ih =>
    intro j N hj g1 g2 g3 hn
    have h12 := hO.n
    refine r_ild3 C (pc := 8) d_M_layOdds_8 ?_
    refine r_bipush C (pc := 9) (n := 11) rfl d_M_layOdds_9 ?_
    refine r_icmp_ge C (pc := 11) (tgt := 38) (by omega) (by omega) d_M_layOdds_11 (by decide) (fun c11 => ?_) (fun c11 => ?_)
    · refine r_iconst C (pc := 38) d_M_layOdds_38 ?_
      refine r_ist3 C (pc := 39) rfl d_M_layOdds_39 ?_
      exact l_M_layOdds_40 C hS M S hR hO b hb y hy hQ (S.1 2 + 1) 0 N (by omega) g1 (fun t ht => g2 t (by omega)) g3 (by omega)
    · refine r_ald0 C (pc := 14) d_M_layOdds_14 ?_
      refine gM_M_odds C (pc := 15) hS k_672 d_M_layOdds_15 ?_
      refine r_ild3 C (pc := 18) d_M_layOdds_18 ?_
      refine r_ald0 C (pc := 19) d_M_layOdds_19 ?_
      refine gM_M_weight C (pc := 20) hS k_665 d_M_layOdds_20 ?_
      refine r_bipush C (pc := 23) (n := 11) rfl d_M_layOdds_23 ?_
      refine r_ild1 C (pc := 25) d_M_layOdds_25 ?_
      refine r_imul C (pc := 26) d_M_layOdds_26 ?_
      refine r_ild3 C (pc := 27) d_M_layOdds_27 ?_
      refine r_iadd C (pc := 28) d_M_layOdds_28 ?_
      refine M_ialdN C (pc := 29) hS (11 * b + j) (by omega) rfl (by decide) (by omega) (by decide) d_M_layOdds_29 ?_
      rw [g1.1 27 _ (by omega), hR.2.2.2.2.2.2.2.2.1 b hb j (by omega)]
      have hwj := (hO.2.2.2.2.2.2.2.2.1 b (by omega)).1 j (by omega)
      refine r_i2l C (pc := 30) (by omega) d_M_layOdds_30 ?_
      rw [lI_lN hwj.1]
      refine M_lastN C (pc := 31) hS (j) (by omega) rfl (by decide) (by omega) (by decide)  d_M_layOdds_31 ?_
      refine r_iinc3 C (pc := 32) rfl d_M_layOdds_32 ?_
      refine r_goto C (pc := 35) (tgt := 8) d_M_layOdds_35 (by decide) ?_
      exact ih (j + 1) _ (by omega) ⟨fun a i q => g1.1 a i q, fun a q q2 q3 => (zJ_fn q).trans (g1.2 a q q2 q3)⟩ (fun t ht => by
        by_cases e : t = j
        · rw [e, zJ_same]; rfl
        · rw [zJ_row e]; exact g2 t (by omega)) g3 (by omega)
set_option maxRecDepth 20000 in
theorem c_M_layOdds (l : Launch) (E : zE) (M : zM) (S : zS) (hR : RM S M) (hO : ok S) (b : Nat) (hb : b < S.1 0) (y : Int) (hy : 0 ≤ y ∧ y ≤ 500) : zK l sM E y_M_layOdds b_M_layOdds 4 none 2 53 [.ref (E.2.2 0), .int (iI (b : Int)), .int (iI y)] M (zPv (fun M2 => kO M M2 ∧ (∀ t, t < 11 → M2.2 33 t = lN (OD S b y t)) ∧ M2.1 0 38 = oQ S b y (S.1 2))) := by
  refine zK.of "OldBeamsModel" rfl (by decide) (Nat.le_of_ble_eq_true rfl) ?_
  intro G hS hE hQ hL C
  subst hE
  subst hL
  show VJ G M 0 [some (.ref (G.2.1.2.2 0)), some (.int (iI (b : Int))), some (.int (iI y)), none] []
  refine r_ald0 C (pc := 0) d_M_layOdds_0 ?_
  refine r_ldc C (pc := 1) (z := (-900009)) k_796 rfl d_M_layOdds_1 ?_
  refine pM_M_firstQuarrel C (pc := 3) hS k_674 d_M_layOdds_3 ?_
  refine r_iconst C (pc := 6) d_M_layOdds_6 ?_
  refine r_ist3 C (pc := 7) rfl d_M_layOdds_7 ?_
  exact l_M_layOdds_8 C hS M S hR hO b hb y hy hQ 12 0 _ (by omega) ⟨fun a i q => zI_o q, fun _ _ _ _ => rfl⟩ (fun t ht => absurd ht (Nat.not_lt_zero t)) (zI_same _ _ _ _) (by omega)
set_option maxRecDepth 20000 in
theorem c_M_odds (l : Launch) (E : zE) (M : zM) (S : zS) (hR : RM S M) (hO : ok S) (b t y : Int) (hb : -2147483648 ≤ b ∧ b < 2147483648) (ht : -2147483648 ≤ t ∧ t < 2147483648) (hy : -2147483648 ≤ y ∧ y < 2147483648) : zK l sM E y_M_odds b_M_odds 4 (some .long) 3 76 [.ref (E.2.2 0), .int (iI b), .int (iI t), .int (iI y)] M (zPl (fun r M2 => r = fOdds S b t y ∧ RM S M2)) := by
  refine zK.of "OldBeamsModel" rfl (by decide) (Nat.le_of_ble_eq_true rfl) ?_
  intro G hS hE hQ hL C
  subst hE
  subst hL
  show VJ G M 0 [some (.ref (G.2.1.2.2 0)), some (.int (iI b)), some (.int (iI t)), some (.int (iI y))] []
  have h12 := hO.n
  have hbn : M.1 0 2 = (S.1 0 : Int) := hR.1.1
  refine r_ald0 C (pc := 0) d_M_odds_0 ?_
  refine r_ild1 C (pc := 1) d_M_odds_1 ?_
  refine call_M_isBeam C (pc := 2) hS (c_M_isBeam _ _ M S hR hO _ (by omega)) k_801 (by decide) (Nat.le_of_ble_eq_true rfl) rfl d_M_odds_2 (kkI (fun r2 N2 h2 => ?_))
  obtain ⟨rfl, rfl⟩ := h2
  refine r_ifneB C (pc := 5) (tgt := 12) d_M_odds_5 (by decide) (fun c5 => ?_) (fun c5 => ?_)
  · obtain ⟨b, rfl⟩ := Int.eq_ofNat_of_zero_le c5.1
    have hb : b < S.1 0 := by omega
    refine r_ild2 C (pc := 12) d_M_odds_12 ?_
    refine r_i2l C (pc := 13) (by omega) d_M_odds_13 ?_
    refine r_lconst C (pc := 14) (v := 0) rfl d_M_odds_14 ?_
    refine r_ldc2 C (pc := 15) k_783 d_M_odds_15 ?_
    refine call_M_in C (pc := 18) hS (c_M_in _ _ _ _ (0) (10) (by omega) (by omega) (by omega)) k_777 (by decide) (Nat.le_of_ble_eq_true rfl) rfl d_M_odds_18 (kkI (fun r18 N18 h18 => ?_))
    obtain ⟨rfl, rfl⟩ := h18
    refine r_ifeqB C (pc := 21) (tgt := 31) d_M_odds_21 (by decide) (fun c21 => ?_) (fun c21 => ?_)
    · refine r_ldc2 C (pc := 31) k_933 d_M_odds_31 ?_
      exact r_lret C (pc := 34) hQ (⟨by unfold fOdds; rw [if_neg (by omega), if_pos (by omega)], hR⟩) d_M_odds_34
    · refine r_ild3 C (pc := 24) d_M_odds_24 ?_
      refine call_M_isYear C (pc := 25) hS (c_M_isYear _ _ _ _ (by omega)) k_791 (by decide) (Nat.le_of_ble_eq_true rfl) rfl d_M_odds_25 (kkI (fun r25 N25 h25 => ?_))
      obtain ⟨rfl, rfl⟩ := h25
      refine r_ifneB C (pc := 28) (tgt := 35) d_M_odds_28 (by decide) (fun c28 => ?_) (fun c28 => ?_)
      · refine r_ald0 C (pc := 35) d_M_odds_35 ?_
        refine r_ild1 C (pc := 36) d_M_odds_36 ?_
        refine r_ild3 C (pc := 37) d_M_odds_37 ?_
        refine call_M_layOdds C (pc := 38) hS (c_M_layOdds _ _ M S hR hO b (by omega) y (by omega)) k_934 (by decide) (Nat.le_of_ble_eq_true rfl) rfl d_M_odds_38 (kkV (fun N38 h38 => ?_))
        obtain ⟨a1, a2, a3⟩ := h38
        refine r_ald0 C (pc := 41) d_M_odds_41 ?_
        refine gM_M_odds C (pc := 42) hS k_672 d_M_odds_42 ?_
        refine r_ild2 C (pc := 45) d_M_odds_45 ?_
        refine M_lald C (pc := 46) hS rfl (by decide) (by omega) (by omega) (by decide) d_M_odds_46 ?_
        exact r_lret C (pc := 47) hQ (⟨by unfold fOdds; rw [if_neg (by omega), if_neg (by omega), Int.toNat_natCast]; exact a2 t.toNat (by omega), RMk hR hO a1.k⟩) d_M_odds_47
      · refine r_ldc2 C (pc := 31) k_933 d_M_odds_31 ?_
        exact r_lret C (pc := 34) hQ (⟨by unfold fOdds; rw [if_neg (by omega), if_pos (by omega)], hR⟩) d_M_odds_34
  · refine r_ldc2 C (pc := 8) k_932 d_M_odds_8 ?_
    exact r_lret C (pc := 11) hQ (⟨by unfold fOdds; rw [if_pos (by omega)], hR⟩) d_M_odds_11
set_option maxRecDepth 20000 in
theorem c_M_quarrel (l : Launch) (E : zE) (M : zM) (S : zS) (hR : RM S M) (hO : ok S) (b y : Int) (hb : -2147483648 ≤ b ∧ b < 2147483648) (hy : -2147483648 ≤ y ∧ y < 2147483648) : zK l sM E y_M_quarrel b_M_quarrel 3 (some .int) 3 76 [.ref (E.2.2 0), .int (iI b), .int (iI y)] M (zPi (fun r M2 => r = fQuar S b y ∧ RM S M2)) := by
  refine zK.of "OldBeamsModel" rfl (by decide) (Nat.le_of_ble_eq_true rfl) ?_
  intro G hS hE hQ hL C
  subst hE
  subst hL
  show VJ G M 0 [some (.ref (G.2.1.2.2 0)), some (.int (iI b)), some (.int (iI y))] []
  have h12 := hO.n
  have hbn : M.1 0 2 = (S.1 0 : Int) := hR.1.1
  refine r_ald0 C (pc := 0) d_M_quarrel_0 ?_
  refine r_ild1 C (pc := 1) d_M_quarrel_1 ?_
  refine call_M_isBeam C (pc := 2) hS (c_M_isBeam _ _ M S hR hO _ (by omega)) k_801 (by decide) (Nat.le_of_ble_eq_true rfl) rfl d_M_quarrel_2 (kkI (fun r2 N2 h2 => ?_))
  obtain ⟨rfl, rfl⟩ := h2
  refine r_ifneB C (pc := 5) (tgt := 11) d_M_quarrel_5 (by decide) (fun c5 => ?_) (fun c5 => ?_)
  · obtain ⟨b, rfl⟩ := Int.eq_ofNat_of_zero_le c5.1
    have hb : b < S.1 0 := by omega
    refine r_ild2 C (pc := 11) d_M_quarrel_11 ?_
    refine call_M_isYear C (pc := 12) hS (c_M_isYear _ _ _ _ (by omega)) k_791 (by decide) (Nat.le_of_ble_eq_true rfl) rfl d_M_quarrel_12 (kkI (fun r12 N12 h12 => ?_))
    obtain ⟨rfl, rfl⟩ := h12
    refine r_ifneB C (pc := 15) (tgt := 21) d_M_quarrel_15 (by decide) (fun c15 => ?_) (fun c15 => ?_)
    · refine r_ald0 C (pc := 21) d_M_quarrel_21 ?_
      refine r_ild1 C (pc := 22) d_M_quarrel_22 ?_
      refine r_ild2 C (pc := 23) d_M_quarrel_23 ?_
      refine call_M_layOdds C (pc := 24) hS (c_M_layOdds _ _ M S hR hO b (by omega) y (by omega)) k_934 (by decide) (Nat.le_of_ble_eq_true rfl) rfl d_M_quarrel_24 (kkV (fun N24 h24 => ?_))
      obtain ⟨a1, a2, a3⟩ := h24
      refine r_ald0 C (pc := 27) d_M_quarrel_27 ?_
      refine gM_M_firstQuarrel C (pc := 28) hS k_674 d_M_quarrel_28 ?_
      exact r_iret C (pc := 31) hQ (⟨by unfold fQuar; rw [if_neg (by omega), if_neg (by omega), Int.toNat_natCast]; exact a3, RMk hR hO a1.k⟩) d_M_quarrel_31
    · refine r_ldc C (pc := 18) (z := (-900002)) k_784 rfl d_M_quarrel_18 ?_
      exact r_iret C (pc := 20) hQ (⟨by unfold fQuar; rw [if_neg (by omega), if_pos (by omega)], hR⟩) d_M_quarrel_20
  · refine r_ldc C (pc := 8) (z := (-900001)) k_780 rfl d_M_quarrel_8 ?_
    exact r_iret C (pc := 10) hQ (⟨by unfold fQuar; rw [if_pos (by omega)], hR⟩) d_M_quarrel_10
