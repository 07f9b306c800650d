/-- a beam as the reference has judged it -/
def hJm (S : zS) (ps dw : Nat → Bool) (N : zM) (b : Nat) : Prop := N.2 24 (2 * b) = P0 S ps dw b ∧ N.2 24 (2 * b + 1) = P1 S ps dw b ∧ N.2 25 b = (GR S ps dw b).1 ∧ N.1 26 b = ((GR S ps dw b).2 : Int)
theorem stp_row {S : zS} {b : Nat} (h : okB S b) (F : Nat → Nat → Int64) (x : Nat) : stp S F b b x = F b x := by
  obtain ⟨-, -, -, -, -, -, -, ho0, ho1⟩ := h
  have key : ∀ (F : Nat → Nat → Int64) (o w : Int) (v : Int64), o ≠ (b : Int) → adF F o w v b x = F b x := fun F o w v q => by
    unfold adF
    by_cases z : o = -900009
    · rw [if_pos z]
    · rw [if_neg z, if_neg (fun e => q e.1.symm)]
  unfold stp
  rw [key _ _ _ _ (by omega), key _ _ _ _ (by omega)]
theorem fP_0 (S : zS) (ps : Nat → Bool) : fP S ps 0 = fL S (S.1 1) := rfl
theorem hGm_ld {S : zS} {l : Nat} {N : zM} (h : hGm (fL S l) N) (hb : 0 ≤ S.2 6 l 0 ∧ S.2 6 l 0 < 12) (hp : 0 ≤ S.2 6 l 1 ∧ S.2 6 l 1 ≤ 60) {v : Int64} (hv : v = if S.2 6 l 3 = 1 then lI (S.2 6 l 2) else 0) : hGm (fL S (l + 1)) (zJ N 23 (61 * S.2 6 l 0 + S.2 6 l 1).toNat (N.2 23 (61 * S.2 6 l 0 + S.2 6 l 1).toNat + v)) := fun b h1 x h2 => by
  rw [fL_succ, zJ_at, hv]
  by_cases e : S.2 6 l 0 = (b : Int) ∧ S.2 6 l 1 = (x : Int)
  · rw [if_pos (show 23 = 23 ∧ 61 * b + x = (61 * S.2 6 l 0 + S.2 6 l 1).toNat by omega), show (61 * S.2 6 l 0 + S.2 6 l 1).toNat = 61 * b + x by omega, h b h1 x h2]
    by_cases z : S.2 6 l 3 = 1
    · rw [if_pos z, if_pos ⟨e.1, e.2, z⟩]
    · rw [if_neg z, if_neg (fun q => z q.2.2)]
  · rw [if_neg (show ¬ (23 = 23 ∧ 61 * b + x = (61 * S.2 6 l 0 + S.2 6 l 1).toNat) by omega), h b h1 x h2, if_neg (fun q => e ⟨q.1, q.2.1⟩), Int64.add_zero]
theorem hGm_pr {S : zS} {ps : Nat → Bool} {p : Nat} {N : zM} (h : hGm (fP S ps p) N) (hb : 0 ≤ S.2 7 p 0 ∧ S.2 7 p 0 < 12) (hp : 0 ≤ S.2 7 p 1 ∧ S.2 7 p 1 ≤ 60) {v : Int64} (hv : v = if ps p = true then lI (S.2 7 p 2) else 0) : hGm (fP S ps (p + 1)) (zJ N 23 (61 * S.2 7 p 0 + S.2 7 p 1).toNat (N.2 23 (61 * S.2 7 p 0 + S.2 7 p 1).toNat - v)) := fun b h1 x h2 => by
  rw [fP_succ, zJ_at, hv]
  show _ = fP S ps p b x - _
  by_cases e : S.2 7 p 0 = (b : Int) ∧ S.2 7 p 1 = (x : Int)
  · rw [if_pos (show 23 = 23 ∧ 61 * b + x = (61 * S.2 7 p 0 + S.2 7 p 1).toNat by omega), show (61 * S.2 7 p 0 + S.2 7 p 1).toNat = 61 * b + x by omega, h b h1 x h2]
    by_cases z : ps p = true
    · rw [if_pos z, if_pos ⟨e.1, e.2, z⟩]
    · rw [if_neg z, if_neg (fun q => z q.2.2)]
  · rw [if_neg (show ¬ (23 = 23 ∧ 61 * b + x = (61 * S.2 7 p 0 + S.2 7 p 1).toNat) by omega), h b h1 x h2, if_neg (fun q => e ⟨q.1, q.2.1⟩), Int64.sub_zero]
set_option maxRecDepth 20000 in
theorem l_M_layTried_153 {G : zG} (C : zC G b_M_layTried "OldBeamsModel" none 2 2 51) (hS : G.1 = sM) (M : zM) (S : zS) (hR : RM S M) (hO : ok S) (fal ps : Nat → Bool) (hTT : hT S M fal ps) (N0 : zM) (q0 : qM M N0) (d0 : ∀ b, b < S.1 0 → N0.1 22 b = zb (dA S fal b = true)) (hQ : G.2.2.1 = zPv (fun M2 => qM M M2 ∧ (∀ b, b < S.1 0 → M2.1 22 b = zb (dA S fal b = true)) ∧ hGm (FF S ps (dA S fal) (S.1 0)) M2 ∧ ∀ b, b < S.1 0 → dA S fal b = false → hJm S ps (dA S fal) M2 b)) : ∀ (n : Nat) (k : Nat) (N : zM), (k ≤ S.1 0) → (∀ a i, a ≠ 26 → N.1 a i = N0.1 a i) → (hGm (FF S ps (dA S fal) k) N) → (∀ b, b < S.1 0 → S.1 0 ≤ b + k → dA S fal b = false → hJm S ps (dA S fal) N b) → (S.1 0 - k < n) → VJ G N 153 [some (.ref (zad G 0)), some (.int (iI ((S.1 0 : Int) - 1 - (k : Int))))] [] := by
  intro n
  induction n with
  | zero =>
    intro k N hk g1 g2 g3 hn
    exact absurd hn (by omega)
  | succ n ih =>
    intro k N hk g1 g2 g3 hn
    have h12 := hO.n
    have hcap := hO.1
    have hR0 : RM S N0 := RMk hR hO q0.k
    have hRN : RM S N := RMk hR0 hO (fun a i q => g1 a i (by omega))
    refine r_ild1 C (pc := 153) d_M_layTried_153 ?_
    refine r_if_lt C (pc := 154) (tgt := 182) (by omega) d_M_layTried_154 (by decide) (fun c154 => ?_) (fun c154 => ?_)
    · exact r_vret C (pc := 182) hQ (⟨q0.tr (fun a i z z2 => g1 a i z2), fun b hb => (g1 22 b (by decide)).trans (d0 b hb), by rw [show S.1 0 = k by omega]; exact g2, fun b hb => g3 b hb (by omega)⟩) d_M_layTried_182
    · obtain ⟨b, hb⟩ : ∃ b : Nat, (S.1 0 : Int) - 1 - (k : Int) = (b : Int) := ⟨S.1 0 - 1 - k, by omega⟩
      rw [hb]
      have hbn : b < S.1 0 := by omega
      have hkb : S.1 0 - 1 - k = b := by omega
      have es := FF_succ S ps (dA S fal) k
      rw [hkb] at es
      refine r_ald0 C (pc := 157) d_M_layTried_157 ?_
      refine gM_M_isDown C (pc := 158) hS k_660 d_M_layTried_158 ?_
      refine r_ild1 C (pc := 161) d_M_layTried_161 ?_
      refine M_baldN C (pc := 162) hS (b) (by omega) rfl (by decide) (by omega) (by decide) d_M_layTried_162 ?_
      rw [g1 22 b (by decide), d0 b hbn]
      refine r_ifneB C (pc := 163) (tgt := 176) d_M_layTried_163 (by decide) (fun c163 => ?_) (fun c163 => ?_)
      · rw [c163, if_pos rfl] at es
        refine r_iinc1 C (pc := 176) rfl d_M_layTried_176 ?_
        refine r_goto C (pc := 179) (tgt := 153) d_M_layTried_179 (by decide) ?_
        refine r_weak ?_ (ih (k + 1) N (by omega) g1 (by rw [es]; exact g2) (fun a h1 h2 h3 => g3 a h1 (by
          rcases Nat.lt_or_ge (a + k) (S.1 0) with w | w
          · rw [show a = b by omega, c163] at h3; exact absurd h3 (by decide)
          · exact w) h3) (by omega))
        exact ⟨Or.inr rfl, Or.inr (by rw [← hb, show (S.1 0 : Int) - 1 - ((k + 1 : Nat) : Int) = (S.1 0 : Int) - 1 - (k : Int) + -1 by omega]), trivial⟩
      · have hdn : dA S fal b = false := Bool.eq_false_iff.mpr c163
        rw [hdn, if_neg (by decide)] at es
        refine r_ald0 C (pc := 166) d_M_layTried_166 ?_
        refine r_ild1 C (pc := 167) d_M_layTried_167 ?_
        refine call_M_layPush C (pc := 168) hS (c_M_layPush _ _ N S hRN hO b hbn _ g2) k_826 (by decide) (Nat.le_of_ble_eq_true rfl) rfl d_M_layTried_168 (kkV (fun N168 h168 => ?_))
        obtain ⟨u1, u2, u3, u4⟩ := h168
        have hR1 : RM S N168 := RMk hRN hO (kM_J u1)
        have hbo := hO.2.2.1 b hbn
        refine r_ald0 C (pc := 171) d_M_layTried_171 ?_
        refine r_ild1 C (pc := 172) d_M_layTried_172 ?_
        refine call_M_layGreat C (pc := 173) hS (c_M_layGreat _ _ N168 S hR1 hO b hbn (FF S ps (dA S fal) k b) (fun p hp => (u2 b (by omega) p hp).trans (stp_row hbo _ p))) k_833 (by decide) (Nat.le_of_ble_eq_true rfl) rfl d_M_layTried_173 (kkV (fun N173 h173 => ?_))
        obtain ⟨v1, v2, v3, v4⟩ := h173
        have eF : FB S ps (dA S fal) b = FF S ps (dA S fal) k := by unfold FB; rw [show S.1 0 - 1 - b = k by omega]
        have e0 : N168.2 24 (2 * b) = P0 S ps (dA S fal) b := by rw [u3, if_pos rfl]; unfold P0; rw [eF]
        have e1 : N168.2 24 (2 * b + 1) = P1 S ps (dA S fal) b := by rw [u3, if_neg (by omega), if_pos rfl]; unfold P1; rw [eF]
        rw [e0, e1] at v3 v4
        refine r_iinc1 C (pc := 176) rfl d_M_layTried_176 ?_
        refine r_goto C (pc := 179) (tgt := 153) d_M_layTried_179 (by decide) ?_
        refine r_weak ?_ (ih (k + 1) N173 (by omega) (fun a i z => (v1 a i (by omega)).trans (by rw [u1]; exact g1 a i z)) (by
          rw [es]
          exact fun a h1 x h2 => (v2 23 _ (by omega)).trans (u2 a h1 x h2)) (fun a h1 h2 h3 => by
          by_cases e : a = b
          · subst e
            refine ⟨(v2 24 _ (by omega)).trans e0, (v2 24 _ (by omega)).trans e1, ?_, ?_⟩
            · rw [v3]; unfold GR; rw [eF]
            · rw [v4]; unfold GR; rw [eF]
          · obtain ⟨w0, w1, w2, w3⟩ := g3 a h1 (by omega) h3
            refine ⟨?_, ?_, ?_, ?_⟩
            · rw [v2 24 _ (by omega), u3, if_neg (by omega), if_neg (by omega)]; exact w0
            · rw [v2 24 _ (by omega), u3, if_neg (by omega), if_neg (by omega)]; exact w1
            · rw [v2 25 _ (by omega), u4 25 (by decide) (by decide)]; exact w2
            · rw [v1 26 _ (by omega), u1]; exact w3) (by omega))
        exact ⟨Or.inr rfl, Or.inr (by rw [← hb, show (S.1 0 : Int) - 1 - ((k + 1 : Nat) : Int) = (S.1 0 : Int) - 1 - (k : Int) + -1 by omega]), trivial⟩
set_option maxRecDepth 20000 in
theorem l_M_layTried_88 {G : zG} (C : zC G b_M_layTried "OldBeamsModel" none 2 2 51) (hS : G.1 = sM) (M : zM) (S : zS) (hR : RM S M) (hO : ok S) (fal ps : Nat → Bool) (hTT : hT S M fal ps) (N0 : zM) (q0 : qM M N0) (d0 : ∀ b, b < S.1 0 → N0.1 22 b = zb (dA S fal b = true)) (hQ : G.2.2.1 = zPv (fun M2 => qM M M2 ∧ (∀ b, b < S.1 0 → M2.1 22 b = zb (dA S fal b = true)) ∧ hGm (FF S ps (dA S fal) (S.1 0)) M2 ∧ ∀ b, b < S.1 0 → dA S fal b = false → hJm S ps (dA S fal) M2 b)) : ∀ (n : Nat) (j : Nat) (N : zM), (j ≤ S.1 3) → (N.1 = N0.1) → (hGm (fP S ps j) N) → (S.1 3 - j < n) → VJ G N 88 [some (.ref (zad G 0)), some (.int (iI (j : Int)))] [] := by
  intro n
  induction n with
  | zero =>
    intro j N hj g1 g2 hn
    exact absurd hn (by omega)
  | succ n ih =>
    intro j N hj g1 g2 hn
    have h12 := hO.n
    have hcap := hO.1
    have hR0 : RM S N0 := RMk hR hO q0.k
    refine r_ild1 C (pc := 88) d_M_layTried_88 ?_
    refine r_ald0 C (pc := 89) d_M_layTried_89 ?_
    refine gM_M_props C (pc := 90) hS k_653 d_M_layTried_90 ?_
    rw [g1, hR0.1.2.2.2]
    refine r_icmp_ge C (pc := 93) (tgt := 146) (by omega) (by omega) d_M_layTried_93 (by decide) (fun c93 => ?_) (fun c93 => ?_)
    · refine r_ald0 C (pc := 146) d_M_layTried_146 ?_
      refine gM_M_beams C (pc := 147) hS k_638 d_M_layTried_147 ?_
      rw [g1, hR0.1.1]
      refine r_iconst C (pc := 150) d_M_layTried_150 ?_
      refine r_isub C (pc := 151) d_M_layTried_151 ?_
      refine r_ist1 C (pc := 152) rfl d_M_layTried_152 ?_
      refine r_weak ?_ (l_M_layTried_153 C hS M S hR hO fal ps hTT N0 q0 d0 hQ (S.1 0 + 1) 0 N (by omega) (fun a i _ => by rw [g1]) (by
        have ej : j = S.1 3 := by omega
        subst ej
        exact g2) (fun b h1 h2 => absurd h2 (by omega)) (by omega))
      exact ⟨Or.inr rfl, Or.inr (by rw [show (S.1 0 : Int) - 1 - ((0 : Nat) : Int) = (S.1 0 : Int) - 1 by omega]), trivial⟩
    · have hpr := hR0.2.2.2.2.2.2.1 j (by omega)
      have hpo := hO.2.2.2.2.2.2.1 j (by omega)
      have hbl := (hO.2.2.1 (S.2 7 j 0).toNat (by omega)).2.1
      refine r_ald0 C (pc := 96) d_M_layTried_96 ?_
      refine gM_M_forces C (pc := 97) hS k_661 d_M_layTried_97 ?_
      refine r_bipush C (pc := 100) (n := 61) rfl d_M_layTried_100 ?_
      refine r_ald0 C (pc := 102) d_M_layTried_102 ?_
      refine gM_M_propBeam C (pc := 103) hS k_654 d_M_layTried_103 ?_
      refine r_ild1 C (pc := 106) d_M_layTried_106 ?_
      refine M_ialdN C (pc := 107) hS (j) (by omega) rfl (by decide) (by omega) (by decide) d_M_layTried_107 ?_
      rw [g1, hpr.1]
      refine r_imul C (pc := 108) d_M_layTried_108 ?_
      refine r_ald0 C (pc := 109) d_M_layTried_109 ?_
      refine gM_M_propPlace C (pc := 110) hS k_655 d_M_layTried_110 ?_
      refine r_ild1 C (pc := 113) d_M_layTried_113 ?_
      refine M_ialdN C (pc := 114) hS (j) (by omega) rfl (by decide) (by omega) (by decide) d_M_layTried_114 ?_
      rw [g1, hpr.2.1]
      refine r_iadd C (pc := 115) d_M_layTried_115 ?_
      refine r_dup2 C (pc := 116) rfl rfl d_M_layTried_116 ?_
      refine M_lald C (pc := 117) hS rfl (by decide) (by omega) (by omega) (by decide) d_M_layTried_117 ?_
      refine r_ald0 C (pc := 118) d_M_layTried_118 ?_
      refine gM_M_trySet C (pc := 119) hS k_659 d_M_layTried_119 ?_
      refine r_ild1 C (pc := 122) d_M_layTried_122 ?_
      refine M_baldN C (pc := 123) hS (j) (by omega) rfl (by decide) (by omega) (by decide) d_M_layTried_123 ?_
      rw [g1, (q0.t hTT).2 j (by omega)]
      refine r_ifeqB C (pc := 124) (tgt := 137) d_M_layTried_124 (by decide) (fun c124 => ?_) (fun c124 => ?_)
      · refine r_lconst C (pc := 137) (v := 0) rfl d_M_layTried_137 ?_
        refine r_lsub C (pc := 138) d_M_layTried_138 ?_
        refine M_last C (pc := 139) hS rfl (by decide) (by omega) (by omega) (by decide)  d_M_layTried_139 ?_
        refine r_iinc1 C (pc := 140) rfl d_M_layTried_140 ?_
        refine r_goto C (pc := 143) (tgt := 88) d_M_layTried_143 (by decide) ?_
        refine ih (j + 1) _ (by omega) g1 (hGm_pr g2 (by omega) (by omega) ?_) (by omega)
        first | rw [if_pos c124] | rw [if_neg c124]
      · refine r_ald0 C (pc := 127) d_M_layTried_127 ?_
        refine gM_M_propPush C (pc := 128) hS k_656 d_M_layTried_128 ?_
        refine r_ild1 C (pc := 131) d_M_layTried_131 ?_
        refine M_ialdN C (pc := 132) hS (j) (by omega) rfl (by decide) (by omega) (by decide) d_M_layTried_132 ?_
        rw [g1, hpr.2.2]
        refine r_i2l C (pc := 133) (by omega) d_M_layTried_133 ?_
        refine r_goto C (pc := 134) (tgt := 138) d_M_layTried_134 (by decide) ?_
        refine r_lsub C (pc := 138) d_M_layTried_138 ?_
        refine M_last C (pc := 139) hS rfl (by decide) (by omega) (by omega) (by decide)  d_M_layTried_139 ?_
        refine r_iinc1 C (pc := 140) rfl d_M_layTried_140 ?_
        refine r_goto C (pc := 143) (tgt := 88) d_M_layTried_143 (by decide) ?_
        refine ih (j + 1) _ (by omega) g1 (hGm_pr g2 (by omega) (by omega) ?_) (by omega)
        first | rw [if_pos c124] | rw [if_neg c124]
set_option maxRecDepth 20000 in
theorem l_M_layTried_28 {G : zG} (C : zC G b_M_layTried "OldBeamsModel" none 2 2 51) (hS : G.1 = sM) (M : zM) (S : zS) (hR : RM S M) (hO : ok S) (fal ps : Nat → Bool) (hTT : hT S M fal ps) (N0 : zM) (q0 : qM M N0) (d0 : ∀ b, b < S.1 0 → N0.1 22 b = zb (dA S fal b = true)) (hQ : G.2.2.1 = zPv (fun M2 => qM M M2 ∧ (∀ b, b < S.1 0 → M2.1 22 b = zb (dA S fal b = true)) ∧ hGm (FF S ps (dA S fal) (S.1 0)) M2 ∧ ∀ b, b < S.1 0 → dA S fal b = false → hJm S ps (dA S fal) M2 b)) : ∀ (n : Nat) (j : Nat) (N : zM), (j ≤ S.1 1) → (N.1 = N0.1) → (hGm (fL S j) N) → (S.1 1 - j < n) → VJ G N 28 [some (.ref (zad G 0)), some (.int (iI (j : Int)))] [] := by
  intro n
  induction n with
  | zero =>
    intro j N hj g1 g2 hn
    exact absurd hn (by omega)
  | succ n ih =>
    intro j N hj g1 g2 hn
    have h12 := hO.n
    have hcap := hO.1
    have hR0 : RM S N0 := RMk hR hO q0.k
    refine r_ild1 C (pc := 28) d_M_layTried_28 ?_
    refine r_ald0 C (pc := 29) d_M_layTried_29 ?_
    refine gM_M_loads C (pc := 30) hS k_648 d_M_layTried_30 ?_
    rw [g1, hR0.1.2.1]
    refine r_icmp_ge C (pc := 33) (tgt := 86) (by omega) (by omega) d_M_layTried_33 (by decide) (fun c33 => ?_) (fun c33 => ?_)
    · refine r_iconst C (pc := 86) d_M_layTried_86 ?_
      refine r_ist1 C (pc := 87) rfl d_M_layTried_87 ?_
      exact l_M_layTried_88 C hS M S hR hO fal ps hTT N0 q0 d0 hQ (S.1 3 + 1) 0 N (by omega) g1 (by rw [fP_0, show S.1 1 = j by omega]; exact g2) (by omega)
    · have hlr := hR0.2.2.2.2.1 j (by omega)
      have hlf : N0.1 15 j = 1 - S.2 6 j 3 := by rw [hR0.2.2.2.2.2.1 j (by omega), if_pos (by omega)]
      have hlo := hO.2.2.2.2.2.1 j (by omega)
      have hbl := (hO.2.2.1 (S.2 6 j 0).toNat (by omega)).2.1
      refine r_ald0 C (pc := 36) d_M_layTried_36 ?_
      refine gM_M_forces C (pc := 37) hS k_661 d_M_layTried_37 ?_
      refine r_bipush C (pc := 40) (n := 61) rfl d_M_layTried_40 ?_
      refine r_ald0 C (pc := 42) d_M_layTried_42 ?_
      refine gM_M_loadBeam C (pc := 43) hS k_649 d_M_layTried_43 ?_
      refine r_ild1 C (pc := 46) d_M_layTried_46 ?_
      refine M_ialdN C (pc := 47) hS (j) (by omega) rfl (by decide) (by omega) (by decide) d_M_layTried_47 ?_
      rw [g1, hlr.1]
      refine r_imul C (pc := 48) d_M_layTried_48 ?_
      refine r_ald0 C (pc := 49) d_M_layTried_49 ?_
      refine gM_M_loadPlace C (pc := 50) hS k_650 d_M_layTried_50 ?_
      refine r_ild1 C (pc := 53) d_M_layTried_53 ?_
      refine M_ialdN C (pc := 54) hS (j) (by omega) rfl (by decide) (by omega) (by decide) d_M_layTried_54 ?_
      rw [g1, hlr.2.1]
      refine r_iadd C (pc := 55) d_M_layTried_55 ?_
      refine r_dup2 C (pc := 56) rfl rfl d_M_layTried_56 ?_
      refine M_lald C (pc := 57) hS rfl (by decide) (by omega) (by omega) (by decide) d_M_layTried_57 ?_
      refine r_ald0 C (pc := 58) d_M_layTried_58 ?_
      refine gM_M_isOff C (pc := 59) hS k_652 d_M_layTried_59 ?_
      refine r_ild1 C (pc := 62) d_M_layTried_62 ?_
      refine M_baldN C (pc := 63) hS (j) (by omega) rfl (by decide) (by omega) (by decide) d_M_layTried_63 ?_
      rw [g1, hlf]
      refine r_if_eq C (pc := 64) (tgt := 71) (by omega) d_M_layTried_64 (by decide) (fun c64 => ?_) (fun c64 => ?_)
      · refine r_ald0 C (pc := 71) d_M_layTried_71 ?_
        refine gM_M_loadWeight C (pc := 72) hS k_651 d_M_layTried_72 ?_
        refine r_ild1 C (pc := 75) d_M_layTried_75 ?_
        refine M_ialdN C (pc := 76) hS (j) (by omega) rfl (by decide) (by omega) (by decide) d_M_layTried_76 ?_
        rw [g1, hlr.2.2]
        refine r_i2l C (pc := 77) (by omega) d_M_layTried_77 ?_
        refine r_ladd C (pc := 78) d_M_layTried_78 ?_
        refine M_last C (pc := 79) hS rfl (by decide) (by omega) (by omega) (by decide)  d_M_layTried_79 ?_
        refine r_iinc1 C (pc := 80) rfl d_M_layTried_80 ?_
        refine r_goto C (pc := 83) (tgt := 28) d_M_layTried_83 (by decide) ?_
        refine ih (j + 1) _ (by omega) g1 (hGm_ld g2 (by omega) (by omega) ?_) (by omega)
        first | rw [if_pos (show S.2 6 j 3 = 1 by omega)] | rw [if_neg (show ¬ S.2 6 j 3 = 1 by omega)]
      · refine r_lconst C (pc := 67) (v := 0) rfl d_M_layTried_67 ?_
        refine r_goto C (pc := 68) (tgt := 78) d_M_layTried_68 (by decide) ?_
        refine r_ladd C (pc := 78) d_M_layTried_78 ?_
        refine M_last C (pc := 79) hS rfl (by decide) (by omega) (by omega) (by decide)  d_M_layTried_79 ?_
        refine r_iinc1 C (pc := 80) rfl d_M_layTried_80 ?_
        refine r_goto C (pc := 83) (tgt := 28) d_M_layTried_83 (by decide) ?_
        refine ih (j + 1) _ (by omega) g1 (hGm_ld g2 (by omega) (by omega) ?_) (by omega)
        first | rw [if_pos (show S.2 6 j 3 = 1 by omega)] | rw [if_neg (show ¬ S.2 6 j 3 = 1 by omega)]
set_option maxRecDepth 20000 in
theorem l_M_layTried_6 {G : zG} (C : zC G b_M_layTried "OldBeamsModel" none 2 2 51) (hS : G.1 = sM) (M : zM) (S : zS) (hR : RM S M) (hO : ok S) (fal ps : Nat → Bool) (hTT : hT S M fal ps) (N0 : zM) (q0 : qM M N0) (d0 : ∀ b, b < S.1 0 → N0.1 22 b = zb (dA S fal b = true)) (hQ : G.2.2.1 = zPv (fun M2 => qM M M2 ∧ (∀ b, b < S.1 0 → M2.1 22 b = zb (dA S fal b = true)) ∧ hGm (FF S ps (dA S fal) (S.1 0)) M2 ∧ ∀ b, b < S.1 0 → dA S fal b = false → hJm S ps (dA S fal) M2 b)) : ∀ (n : Nat) (j : Nat) (N : zM), (j ≤ 732) → (N.1 = N0.1) → (∀ i, i < j → N.2 23 i = 0) → (732 - j < n) → VJ G N 6 [some (.ref (zad G 0)), some (.int (iI (j : Int)))] [] := by
  intro n
  induction n with
  | zero =>
    intro j N hj g1 g2 hn
    exact absurd hn (by omega)
  | succ n ih =>
    intro j N hj g1 g2 hn
    have h12 := hO.n
    have hcap := hO.1
    have hR0 : RM S N0 := RMk hR hO q0.k
    refine r_ild1 C (pc := 6) d_M_layTried_6 ?_
    refine r_sipush C (pc := 7) (n := 732) rfl d_M_layTried_7 ?_
    refine r_icmp_ge C (pc := 10) (tgt := 26) (by omega) (by omega) d_M_layTried_10 (by decide) (fun c10 => ?_) (fun c10 => ?_)
    · refine r_iconst C (pc := 26) d_M_layTried_26 ?_
      refine r_ist1 C (pc := 27) rfl d_M_layTried_27 ?_
      exact l_M_layTried_28 C hS M S hR hO fal ps hTT N0 q0 d0 hQ (S.1 1 + 1) 0 N (by omega) g1 (fun b h1 x h2 => g2 _ (by omega)) (by omega)
    · refine r_ald0 C (pc := 13) d_M_layTried_13 ?_
      refine gM_M_forces C (pc := 14) hS k_661 d_M_layTried_14 ?_
      refine r_ild1 C (pc := 17) d_M_layTried_17 ?_
      refine r_lconst C (pc := 18) (v := 0) rfl d_M_layTried_18 ?_
      refine M_lastN C (pc := 19) hS (j) (by omega) rfl (by decide) (by omega) (by decide)  d_M_layTried_19 ?_
      refine r_iinc1 C (pc := 20) rfl d_M_layTried_20 ?_
      refine r_goto C (pc := 23) (tgt := 6) d_M_layTried_23 (by decide) ?_
      exact ih (j + 1) _ (by omega) g1 (fun i hi => by
        by_cases e : i = j
        · rw [e, zJ_same]
        · rw [zJ_row e]; exact g2 i (by omega)) (by omega)
set_option maxRecDepth 20000 in
theorem c_M_layTried (l : Launch) (E : zE) (M : zM) (S : zS) (hR : RM S M) (hO : ok S) (fal ps : Nat → Bool) (hTT : hT S M fal ps) : zK l sM E y_M_layTried b_M_layTried 2 none 2 51 [.ref (E.2.2 0)] M (zPv (fun M2 => qM M M2 ∧ (∀ b, b < S.1 0 → M2.1 22 b = zb (dA S fal b = true)) ∧ hGm (FF S ps (dA S fal) (S.1 0)) M2 ∧ ∀ b, b < S.1 0 → dA S fal b = false → hJm S ps (dA S fal) M2 b)) := by
  refine zK.of "OldBeamsModel" rfl (by decide) (Nat.le_of_ble_eq_true rfl) ?_
  intro G hS hE hQ hL C
  subst hE
  subst hL
  show VJ G M 0 [some (.ref (G.2.1.2.2 0)), none] []
  refine r_ald0 C (pc := 0) d_M_layTried_0 ?_
  refine call_M_layDown C (pc := 1) hS (c_M_layDown _ _ M S hR hO fal ps hTT) k_822 (by decide) (Nat.le_of_ble_eq_true rfl) rfl d_M_layTried_1 (kkV (fun N1 h1 => ?_))
  obtain ⟨u1, u2, u3⟩ := h1
  refine r_iconst C (pc := 4) d_M_layTried_4 ?_
  refine r_ist1 C (pc := 5) rfl d_M_layTried_5 ?_
  exact l_M_layTried_6 C hS M S hR hO fal ps hTT N1 u1 u3 hQ 733 0 N1 (by omega) rfl (fun i hi => absurd hi (Nat.not_lt_zero i)) (by omega)
set_option maxRecDepth 20000 in
theorem c_M_layNow (l : Launch) (E : zE) (M : zM) (S : zS) (hR : RM S M) (hO : ok S) : zK l sM E y_M_layNow b_M_layNow 1 none 3 72 [.ref (E.2.2 0)] M (zPv (fun M2 => kM M M2 ∧ (∀ b, b < S.1 0 → M2.1 22 b = zb (dA S (flS S) b = true)) ∧ hGm (FF S (psS S) (dA S (flS S)) (S.1 0)) M2 ∧ ∀ b, b < S.1 0 → dA S (flS S) b = false → hJm S (psS S) (dA S (flS S)) M2 b)) := by
  refine zK.of "OldBeamsModel" rfl (by decide) (Nat.le_of_ble_eq_true rfl) ?_
  intro G hS hE hQ hL C
  subst hE
  subst hL
  show VJ G M 0 [some (.ref (G.2.1.2.2 0))] []
  refine r_ald0 C (pc := 0) d_M_layNow_0 ?_
  refine call_M_tryNow C (pc := 1) hS (c_M_tryNow _ _ M S hR hO) k_814 (by decide) (Nat.le_of_ble_eq_true rfl) rfl d_M_layNow_1 (kkV (fun N1 h1 => ?_))
  obtain ⟨u1, u2⟩ := h1
  have hk1 : kM M N1 := fun a i q => u1 a i (by omega) (by omega)
  refine r_ald0 C (pc := 4) d_M_layNow_4 ?_
  refine call_M_layTried C (pc := 5) hS (c_M_layTried _ _ N1 S (RMk hR hO hk1) hO (flS S) (psS S) u2) k_818 (by decide) (Nat.le_of_ble_eq_true rfl) rfl d_M_layNow_5 (kkV (fun N5 h5 => ?_))
  obtain ⟨v1, v2⟩ := h5
  exact r_vret C (pc := 8) hQ (⟨hk1.tr v1.k, v2⟩) d_M_layNow_8
set_option maxRecDepth 20000 in
theorem l_M_downMany_4 {G : zG} (C : zC G b_M_downMany "OldBeamsModel" (some .int) 3 0 0) (hS : G.1 = sM) (M : zM) (S : zS) (hR : RM S M) (hO : ok S) (dw : Nat → Bool) (hd : ∀ b, b < S.1 0 → M.1 22 b = zb (dw b = true)) (hQ : G.2.2.1 = zPi (fun r M2 => r = (dcnt dw (S.1 0) : Int) ∧ M = M2)) : ∀ (n : Nat) (j : Nat), (j ≤ S.1 0) → (S.1 0 - j < n) → VJ G M 4 [some (.ref (zad G 0)), some (.int (iI (dcnt dw j : Int))), some (.int (iI (j : Int)))] [] := by
  intro n
  induction n with
  | zero =>
    intro j hj hn
    exact absurd hn (by omega)
  | succ n ih =>
    intro j hj hn
    have h12 := hO.n
    have es := dcnt_succ dw j
    have hdl := dcnt_le dw j
    refine r_ild2 C (pc := 4) d_M_downMany_4 ?_
    refine r_ald0 C (pc := 5) d_M_downMany_5 ?_
    refine gM_M_beams C (pc := 6) hS k_638 d_M_downMany_6 ?_
    rw [hR.1.1]
    refine r_icmp_ge C (pc := 9) (tgt := 35) (by omega) (by omega) d_M_downMany_9 (by decide) (fun c9 => ?_) (fun c9 => ?_)
    · refine r_ild1 C (pc := 35) d_M_downMany_35 ?_
      exact r_iret C (pc := 36) hQ (⟨by rw [show j = S.1 0 by omega], rfl⟩) d_M_downMany_36
    · refine r_ild1 C (pc := 12) d_M_downMany_12 ?_
      refine r_ald0 C (pc := 13) d_M_downMany_13 ?_
      refine gM_M_isDown C (pc := 14) hS k_660 d_M_downMany_14 ?_
      refine r_ild2 C (pc := 17) d_M_downMany_17 ?_
      refine M_baldN C (pc := 18) hS (j) (by omega) rfl (by decide) (by omega) (by decide) d_M_downMany_18 ?_
      rw [hd j (by omega)]
      refine r_ifeqB C (pc := 19) (tgt := 26) d_M_downMany_19 (by decide) (fun c19 => ?_) (fun c19 => ?_)
      · refine r_iconst C (pc := 26) d_M_downMany_26 ?_
        refine r_iadd C (pc := 27) d_M_downMany_27 ?_
        refine r_ist1 C (pc := 28) rfl d_M_downMany_28 ?_
        refine r_iinc2 C (pc := 29) rfl d_M_downMany_29 ?_
        refine r_goto C (pc := 32) (tgt := 4) d_M_downMany_32 (by decide) ?_
        refine r_weak ?_ (ih (j + 1) (by omega) (by omega))
        exact ⟨Or.inr rfl, Or.inr (by rw [es]; first | (rw [if_pos c19]; rfl) | (rw [if_neg c19]; rfl)), Or.inr rfl, trivial⟩
      · refine r_iconst C (pc := 22) d_M_downMany_22 ?_
        refine r_goto C (pc := 23) (tgt := 27) d_M_downMany_23 (by decide) ?_
        refine r_iadd C (pc := 27) d_M_downMany_27 ?_
        refine r_ist1 C (pc := 28) rfl d_M_downMany_28 ?_
        refine r_iinc2 C (pc := 29) rfl d_M_downMany_29 ?_
        refine r_goto C (pc := 32) (tgt := 4) d_M_downMany_32 (by decide) ?_
        refine r_weak ?_ (ih (j + 1) (by omega) (by omega))
        exact ⟨Or.inr rfl, Or.inr (by rw [es]; first | (rw [if_pos c19]; rfl) | (rw [if_neg c19]; rfl)), Or.inr rfl, trivial⟩
set_option maxRecDepth 20000 in
theorem c_M_downMany (l : Launch) (E : zE) (M : zM) (S : zS) (hR : RM S M) (hO : ok S) (dw : Nat → Bool) (hd : ∀ b, b < S.1 0 → M.1 22 b = zb (dw b = true)) : zK l sM E y_M_downMany b_M_downMany 3 (some .int) 0 0 [.ref (E.2.2 0)] M (zPi (fun r M2 => r = (dcnt dw (S.1 0) : Int) ∧ M = M2)) := by
  refine zK.of "OldBeamsModel" rfl (by decide) (Nat.le_of_ble_eq_true rfl) ?_
  intro G hS hE hQ hL C
  subst hE
  subst hL
  show VJ G M 0 [some (.ref (G.2.1.2.2 0)), none, none] []
  refine r_iconst C (pc := 0) d_M_downMany_0 ?_
  refine r_ist1 C (pc := 1) rfl d_M_downMany_1 ?_
  refine r_iconst C (pc := 2) d_M_downMany_2 ?_
  refine r_ist2 C (pc := 3) rfl d_M_downMany_3 ?_
  exact l_M_downMany_4 C hS M S hR hO dw hd hQ (S.1 0 + 1) 0 (by omega) (by omega)
set_option maxRecDepth 20000 in
theorem c_M_isLifting (l : Launch) (E : zE) (M : zM) (b : Nat) (hb : b < 12) : zK l sM E y_M_isLifting b_M_isLifting 2 (some .boolean) 0 0 [.ref (E.2.2 0), .int (iI (b : Int))] M (zPi (fun r M2 => r = zb (M.2 24 (2 * b) < 0 ∨ M.2 24 (2 * b + 1) < 0) ∧ M = M2)) := by
  refine zK.of "OldBeamsModel" rfl (by decide) (Nat.le_of_ble_eq_true rfl) ?_
  intro G hS hE hQ hL C
  subst hE
  subst hL
  show VJ G M 0 [some (.ref (G.2.1.2.2 0)), some (.int (iI (b : Int)))] []
  refine r_ald0 C (pc := 0) d_M_isLifting_0 ?_
  refine gM_M_push C (pc := 1) hS k_662 d_M_isLifting_1 ?_
  refine r_iconst C (pc := 4) d_M_isLifting_4 ?_
  refine r_ild1 C (pc := 5) d_M_isLifting_5 ?_
  refine r_imul C (pc := 6) d_M_isLifting_6 ?_
  refine M_laldN C (pc := 7) hS (2 * b) (by omega) rfl (by decide) (by omega) (by decide) d_M_isLifting_7 ?_
  refine r_lconst C (pc := 8) (v := 0) rfl d_M_isLifting_8 ?_
  refine r_lcmp_lt C (pc := 9) (tgt := 28) d_M_isLifting_9 d_M_isLifting_10 (by decide) (fun c9 => ?_) (fun c9 => ?_)
  · refine r_iconst C (pc := 28) d_M_isLifting_28 ?_
    refine r_goto C (pc := 29) (tgt := 33) d_M_isLifting_29 (by decide) ?_
    exact r_zret C (pc := 33) hQ (by first | exact Or.inl rfl | exact Or.inr rfl | exact zb_01 _ | assumption) (⟨by first | exact zb_of1 (Or.inl c9) | exact zb_of0 (fun q => q.elim c9 (Int64.not_lt.mpr c24)) | exact zb_of1 (Or.inr (Int64.not_le.mp c24)), rfl⟩) d_M_isLifting_33
  · refine r_ald0 C (pc := 13) d_M_isLifting_13 ?_
    refine gM_M_push C (pc := 14) hS k_662 d_M_isLifting_14 ?_
    refine r_iconst C (pc := 17) d_M_isLifting_17 ?_
    refine r_ild1 C (pc := 18) d_M_isLifting_18 ?_
    refine r_imul C (pc := 19) d_M_isLifting_19 ?_
    refine r_iconst C (pc := 20) d_M_isLifting_20 ?_
    refine r_iadd C (pc := 21) d_M_isLifting_21 ?_
    refine M_laldN C (pc := 22) hS (2 * b + 1) (by omega) rfl (by decide) (by omega) (by decide) d_M_isLifting_22 ?_
    refine r_lconst C (pc := 23) (v := 0) rfl d_M_isLifting_23 ?_
    refine r_lcmp_ge C (pc := 24) (tgt := 32) d_M_isLifting_24 d_M_isLifting_25 (by decide) (fun c24 => ?_) (fun c24 => ?_)
    · refine r_iconst C (pc := 32) d_M_isLifting_32 ?_
      exact r_zret C (pc := 33) hQ (by first | exact Or.inl rfl | exact Or.inr rfl | exact zb_01 _ | assumption) (⟨by first | exact zb_of1 (Or.inl c9) | exact zb_of0 (fun q => q.elim c9 (Int64.not_lt.mpr c24)) | exact zb_of1 (Or.inr (Int64.not_le.mp c24)), rfl⟩) d_M_isLifting_33
    · refine r_iconst C (pc := 28) d_M_isLifting_28 ?_
      refine r_goto C (pc := 29) (tgt := 33) d_M_isLifting_29 (by decide) ?_
      exact r_zret C (pc := 33) hQ (by first | exact Or.inl rfl | exact Or.inr rfl | exact zb_01 _ | assumption) (⟨by first | exact zb_of1 (Or.inl c9) | exact zb_of0 (fun q => q.elim c9 (Int64.not_lt.mpr c24)) | exact zb_of1 (Or.inr (Int64.not_le.mp c24)), rfl⟩) d_M_isLifting_33
theorem hold_ar {w t : Int} (hw : 0 ≤ w ∧ w ≤ 639360) (ht : 0 ≤ t ∧ t ≤ 10) : lI w * lI t / (10 : Int64) = lI (w * t / 10) := by
  have m1 : w * t ≤ 639360 * 10 := Int.mul_le_mul hw.2 ht.2 ht.1 (by omega)
  have m0 : 0 ≤ w * t := Int.mul_nonneg hw.1 ht.1
  rw [lI_mul, lI_lN m0, show (10 : Int64) = lN 10 from rfl, pk_lDiv (by omega) (by decide) (by decide), lI_lN (by omega)]
  exact lN_e (by omega)
set_option maxRecDepth 20000 in
theorem c_M_isHolding (l : Launch) (E : zE) (M : zM) (S : zS) (hR : RM S M) (hO : ok S) (b : Nat) (hb : b < S.1 0) (dw ps : Nat → Bool) (hj : hJm S ps dw M b) (t : Int) (ht : 0 ≤ t ∧ t ≤ 10) : zK l sM E y_M_isHolding b_M_isHolding 3 (some .boolean) 1 21 [.ref (E.2.2 0), .int (iI (b : Int)), .int (iI t)] M (zPi (fun r M2 => r = zb (hoB S ps dw b t = true) ∧ M = M2)) := by
  refine zK.of "OldBeamsModel" rfl (by decide) (Nat.le_of_ble_eq_true rfl) ?_
  intro G hS hE hQ hL C
  subst hE
  subst hL
  show VJ G M 0 [some (.ref (G.2.1.2.2 0)), some (.int (iI (b : Int))), some (.int (iI t))] []
  have h12 := hO.n
  have hwr := (wh_rng hO hb).2
  have hho : hoB S ps dw b t = true ↔ ¬ (M.2 24 (2 * b) < 0 ∨ M.2 24 (2 * b + 1) < 0) ∧ M.2 25 b ≤ lI (wh S b * t / 10) := by
    rw [hj.1, hj.2.1, hj.2.2.1]
    unfold hoB
    simp only [Bool.and_eq_true, Bool.not_eq_true', Bool.or_eq_false_iff, decide_eq_false_iff_not, decide_eq_true_eq, not_or]
  refine r_ald0 C (pc := 0) d_M_isHolding_0 ?_
  refine r_ild1 C (pc := 1) d_M_isHolding_1 ?_
  refine call_M_isLifting C (pc := 2) hS (c_M_isLifting _ _ M b (by omega)) k_894 (by decide) (Nat.le_of_ble_eq_true rfl) rfl d_M_isHolding_2 (kkI (fun r2 N2 h2 => ?_))
  obtain ⟨rfl, rfl⟩ := h2
  refine r_ifneB C (pc := 5) (tgt := 35) d_M_isHolding_5 (by decide) (fun c5 => ?_) (fun c5 => ?_)
  · refine r_iconst C (pc := 35) d_M_isHolding_35 ?_
    exact r_zret C (pc := 36) hQ (by first | exact Or.inl rfl | exact Or.inr rfl | exact zb_01 _ | assumption) (⟨by first | exact zb_of0 (fun q => (hho.mp q).1 c5) | exact zb_of0 (fun q => absurd (hho.mp q).2 (Int64.not_le.mpr c27)) | exact zb_of1 (hho.mpr ⟨c5, Int64.not_lt.mp c27⟩), rfl⟩) d_M_isHolding_36
  · refine r_ald0 C (pc := 8) d_M_isHolding_8 ?_
    refine gM_M_great C (pc := 9) hS k_663 d_M_isHolding_9 ?_
    refine r_ild1 C (pc := 12) d_M_isHolding_12 ?_
    refine M_laldN C (pc := 13) hS (b) (by omega) rfl (by decide) (by omega) (by decide) d_M_isHolding_13 ?_
    refine r_ald0 C (pc := 14) d_M_isHolding_14 ?_
    refine r_ild1 C (pc := 15) d_M_isHolding_15 ?_
    refine call_M_whole C (pc := 16) hS (c_M_whole _ _ M S hR hO b hb) k_841 (by decide) (Nat.le_of_ble_eq_true rfl) rfl d_M_isHolding_16 (kkI (fun r16 N16 h16 => ?_))
    obtain ⟨rfl, rfl⟩ := h16
    refine r_i2l C (pc := 19) (by omega) d_M_isHolding_19 ?_
    refine r_ild2 C (pc := 20) d_M_isHolding_20 ?_
    refine r_i2l C (pc := 21) (by omega) d_M_isHolding_21 ?_
    refine r_lmul C (pc := 22) d_M_isHolding_22 ?_
    refine r_ldc2 C (pc := 23) k_783 d_M_isHolding_23 ?_
    refine r_ldiv C (pc := 26) (by decide) d_M_isHolding_26 ?_
    refine r_topl (hold_ar hwr ht) ?_
    refine r_lcmp_gt C (pc := 27) (tgt := 35) d_M_isHolding_27 d_M_isHolding_28 (by decide) (fun c27 => ?_) (fun c27 => ?_)
    · refine r_iconst C (pc := 35) d_M_isHolding_35 ?_
      exact r_zret C (pc := 36) hQ (by first | exact Or.inl rfl | exact Or.inr rfl | exact zb_01 _ | assumption) (⟨by first | exact zb_of0 (fun q => (hho.mp q).1 c5) | exact zb_of0 (fun q => absurd (hho.mp q).2 (Int64.not_le.mpr c27)) | exact zb_of1 (hho.mpr ⟨c5, Int64.not_lt.mp c27⟩), rfl⟩) d_M_isHolding_36
    · refine r_iconst C (pc := 31) d_M_isHolding_31 ?_
      refine r_goto C (pc := 32) (tgt := 36) d_M_isHolding_32 (by decide) ?_
      exact r_zret C (pc := 36) hQ (by first | exact Or.inl rfl | exact Or.inr rfl | exact zb_01 _ | assumption) (⟨by first | exact zb_of0 (fun q => (hho.mp q).1 c5) | exact zb_of0 (fun q => absurd (hho.mp q).2 (Int64.not_le.mpr c27)) | exact zb_of1 (hho.mpr ⟨c5, Int64.not_lt.mp c27⟩), rfl⟩) d_M_isHolding_36
set_option maxRecDepth 20000 in
theorem c_M_mayTell (l : Launch) (E : zE) (M : zM) (S : zS) (hR : RM S M) (hO : ok S) (b z : Int) (hb : -2147483648 ≤ b ∧ b < 2147483648) (hz : z = 0 ∨ z = 1) : zK l sM E y_M_mayTell b_M_mayTell 3 (some .int) 4 92 [.ref (E.2.2 0), .int (iI b), .int (iI z)] M (zPi (fun r M2 => r = rfS S b (z = 1) ∧ kM M M2 ∧ (r = 0 → (∀ b, b < S.1 0 → M2.1 22 b = zb (dA S (flS S) b = true)) ∧ hGm (FF S (psS S) (dA S (flS S)) (S.1 0)) M2 ∧ ∀ b, b < S.1 0 → dA S (flS S) b = false → hJm S (psS S) (dA S (flS S)) M2 b))) := by
  refine zK.of "OldBeamsModel" rfl (by decide) (Nat.le_of_ble_eq_true rfl) ?_
  intro G hS hE hQ hL C
  subst hE
  subst hL
  show VJ G M 0 [some (.ref (G.2.1.2.2 0)), some (.int (iI b)), some (.int (iI z))] []
  have h12 := hO.n
  have hbn : M.1 0 2 = (S.1 0 : Int) := hR.1.1
  refine r_ald0 C (pc := 0) d_M_mayTell_0 ?_
  refine r_ild1 C (pc := 1) d_M_mayTell_1 ?_
  refine call_M_isBeam C (pc := 2) hS (c_M_isBeam _ _ M S hR hO _ (by omega)) k_801 (by decide) (Nat.le_of_ble_eq_true rfl) rfl d_M_mayTell_2 (kkI (fun r2 N2 h2 => ?_))
  obtain ⟨rfl, rfl⟩ := h2
  refine r_ifneB C (pc := 5) (tgt := 11) d_M_mayTell_5 (by decide) (fun c5 => ?_) (fun c5 => ?_)
  · obtain ⟨b, rfl⟩ := Int.eq_ofNat_of_zero_le c5.1
    have hb : b < S.1 0 := by omega
    refine r_ild2 C (pc := 11) d_M_mayTell_11 ?_
    refine r_if_ne C (pc := 12) (tgt := 18) (by omega) d_M_mayTell_12 (by decide) (fun c12 => ?_) (fun c12 => ?_)
    · refine r_ald0 C (pc := 18) d_M_mayTell_18 ?_
      refine call_M_layNow C (pc := 19) hS (c_M_layNow _ _ M S hR hO) k_810 (by decide) (Nat.le_of_ble_eq_true rfl) rfl d_M_mayTell_19 (kkV (fun N19 h19 => ?_))
      obtain ⟨b1, b2, b4, b3⟩ := h19
      have hR2 := RMk hR hO b1
      refine r_ald0 C (pc := 22) d_M_mayTell_22 ?_
      refine gM_M_isDown C (pc := 23) hS k_660 d_M_mayTell_23 ?_
      refine r_ild1 C (pc := 26) d_M_mayTell_26 ?_
      refine M_baldN C (pc := 27) hS (b) (by omega) rfl (by decide) (by omega) (by decide) d_M_mayTell_27 ?_
      rw [b2 b hb]
      refine r_ifeqB C (pc := 28) (tgt := 36) d_M_mayTell_28 (by decide) (fun c28 => ?_) (fun c28 => ?_)
      · refine r_iconst C (pc := 36) d_M_mayTell_36 ?_
        exact r_iret C (pc := 37) hQ (⟨by unfold rfS; rw [if_neg (by omega), if_neg (by omega), Int.toNat_natCast]; first | rw [if_pos c28] | rw [if_neg c28], b1, fun _ => ⟨b2, b4, b3⟩⟩) d_M_mayTell_37
      · refine r_ldc C (pc := 31) (z := (-900003)) k_805 rfl d_M_mayTell_31 ?_
        refine r_goto C (pc := 33) (tgt := 37) d_M_mayTell_33 (by decide) ?_
        exact r_iret C (pc := 37) hQ (⟨by unfold rfS; rw [if_neg (by omega), if_neg (by omega), Int.toNat_natCast]; first | rw [if_pos c28] | rw [if_neg c28], b1, fun _ => ⟨b2, b4, b3⟩⟩) d_M_mayTell_37
    · refine r_ldc C (pc := 15) (z := (-900002)) k_784 rfl d_M_mayTell_15 ?_
      exact r_iret C (pc := 17) hQ (⟨by unfold rfS; rw [if_neg (by omega), if_pos (by omega)], kM.rf M, fun q => absurd q (by decide)⟩) d_M_mayTell_17
  · refine r_ldc C (pc := 8) (z := (-900001)) k_780 rfl d_M_mayTell_8 ?_
    exact r_iret C (pc := 10) hQ (⟨by unfold rfS; rw [if_pos (by omega)], kM.rf M, fun q => absurd q (by decide)⟩) d_M_mayTell_10
