theorem lkS {S : zS} {f i j : Nat} {v : Int} (h : f ≠ 10) (b : Nat) : lkN (uS S f i j v) b (S.1 2) = lkN S b (S.1 2) := lkN_eq _ (fun l _ => uS_o (by omega))
set_option maxRecDepth 20000 in
theorem ok_kind {S : zS} (hO : ok S) {k w : Nat} {v : Int} (h4 : k < 4) (h3 : w < 3) (hv : (w = 0 ∧ 1 ≤ v ∧ v ≤ 999) ∨ (w ≠ 0 ∧ 0 ≤ v ∧ v ≤ 10)) : ok (uS S 1 k w v) := by
  have h12 := hO.n
  obtain ⟨hc, hk, hb, hwf, hout, hl, hp, hps, hw, ht, hlk, hcnt, hpr⟩ := hO
  refine ⟨?_, ?_, ?_, ?_, ?_, ?_, ?_, ?_, ?_, ?_, ?_, ?_, ?_⟩
  · exact hc
  · intro k9 h
    have q := hk k9 h
    rw [uS_at, uS_at, uS_at]
    refine ⟨?_, ?_, ?_⟩
    · by_cases e : 1 = 1 ∧ k9 = k ∧ 0 = w
      · rw [if_pos e]; omega
      · rw [if_neg e]; omega
    · by_cases e : 1 = 1 ∧ k9 = k ∧ 1 = w
      · rw [if_pos e]; omega
      · rw [if_neg e]; omega
    · by_cases e : 1 = 1 ∧ k9 = k ∧ 2 = w
      · rw [if_pos e]; omega
      · rw [if_neg e]; omega
  · exact hb
  · exact hwf
  · exact hout
  · exact hl
  · exact hp
  · exact hps
  · exact hw
  · exact ht
  · exact hlk
  · exact fun b9 h => by show lkN (uS S 1 k w v) b9 (S.1 2) ≤ 8; rw [show lkN (uS S 1 k w v) b9 (S.1 2) = lkN S b9 (S.1 2) from lkN_eq _ (fun l _ => rfl)]; exact hcnt b9 h
  · exact hpr
theorem okB_of {S T : zS} {b : Nat} (h : okB S b) (e0 : T.2 2 b 0 = S.2 2 b 0) (e1 : ∀ a, a ≤ b → T.2 2 a 1 = S.2 2 a 1) (e2 : T.2 2 b 2 = S.2 2 b 2) (e3 : T.2 2 b 3 = S.2 2 b 3) (e4 : ∀ s, s < 2 → T.2 3 b s = S.2 3 b s ∧ T.2 4 b s = S.2 4 b s ∧ T.2 5 b s = S.2 5 b s) : okB T b := by
  unfold okB at h ⊢
  obtain ⟨f0, f1, f2⟩ := e4 0 (by omega)
  obtain ⟨g0, g1, g2⟩ := e4 1 (by omega)
  rw [e0, e1 b (Nat.le_refl b), e2, e3, f0, f1, f2, g0, g1, g2]
  obtain ⟨h1, h2, h3, h4, h5, h6, h7, h8, h9⟩ := h
  refine ⟨h1, h2, h3, h4, h5, h6, h7, ?_, ?_⟩
  · rcases h8 with h8 | h8
    · exact Or.inl h8
    · rw [e1 _ (by omega)]; exact Or.inr h8
  · rcases h9 with h9 | h9
    · exact Or.inl h9
    · rw [e1 _ (by omega)]; exact Or.inr h9
set_option maxRecDepth 20000 in
theorem ok_wet {S : zS} (hO : ok S) {b : Nat} {z : Int} (h4 : b < S.1 0) (hz : z = 0 ∨ z = 1) : ok (uS S 2 b 4 z) := by
  have h12 := hO.n
  obtain ⟨hc, hk, hb, hwf, hout, hl, hp, hps, hw, ht, hlk, hcnt, hpr⟩ := hO
  refine ⟨?_, ?_, ?_, ?_, ?_, ?_, ?_, ?_, ?_, ?_, ?_, ?_, ?_⟩
  · exact hc
  · exact hk
  · exact fun b9 h => okB_of (hb b9 h) (uS_o (by omega)) (fun a _ => uS_o (by omega)) (uS_o (by omega)) (uS_o (by omega)) (fun s _ => ⟨rfl, rfl, rfl⟩)
  · intro b9 h
    have q := hwf b9 h
    rw [uS_at, uS_at, if_neg (show ¬ (2 = 2 ∧ b9 = b ∧ 5 = 4) by omega)]
    refine ⟨?_, q.2⟩
    by_cases e : 2 = 2 ∧ b9 = b ∧ 4 = 4
    · rw [if_pos e]; exact hz
    · rw [if_neg e]; exact q.1
  · intro b9 h g
    have g : S.1 0 ≤ b9 := g
    rw [uS_o (by omega), uS_o (by omega)]
    exact hout b9 h g
  · intro l9 h
    rw [show ∀ a, (uS S 2 b 4 z).2 2 a 1 = S.2 2 a 1 from fun a => uS_o (by omega)]
    exact hl l9 h
  · intro l9 h
    rw [show ∀ a, (uS S 2 b 4 z).2 2 a 1 = S.2 2 a 1 from fun a => uS_o (by omega)]
    exact hp l9 h
  · exact hps
  · exact hw
  · exact ht
  · exact hlk
  · exact fun b9 h => by show lkN (uS S 2 b 4 z) b9 (S.1 2) ≤ 8; rw [show lkN (uS S 2 b 4 z) b9 (S.1 2) = lkN S b9 (S.1 2) from lkN_eq _ (fun l _ => rfl)]; exact hcnt b9 h
  · exact hpr
set_option maxRecDepth 20000 in
theorem ok_fall {S : zS} (hO : ok S) {b : Nat} (h4 : b < S.1 0) : ok (uS S 2 b 5 1) := by
  have h12 := hO.n
  obtain ⟨hc, hk, hb, hwf, hout, hl, hp, hps, hw, ht, hlk, hcnt, hpr⟩ := hO
  refine ⟨?_, ?_, ?_, ?_, ?_, ?_, ?_, ?_, ?_, ?_, ?_, ?_, ?_⟩
  · exact hc
  · exact hk
  · exact fun b9 h => okB_of (hb b9 h) (uS_o (by omega)) (fun a _ => uS_o (by omega)) (uS_o (by omega)) (uS_o (by omega)) (fun s _ => ⟨rfl, rfl, rfl⟩)
  · intro b9 h
    have q := hwf b9 h
    rw [uS_at, uS_at, if_neg (show ¬ (2 = 2 ∧ b9 = b ∧ 4 = 5) by omega)]
    refine ⟨q.1, ?_⟩
    by_cases e : 2 = 2 ∧ b9 = b ∧ 5 = 5
    · rw [if_pos e]; exact Or.inr rfl
    · rw [if_neg e]; exact q.2
  · intro b9 h g
    have g : S.1 0 ≤ b9 := g
    rw [uS_o (by omega), uS_o (by omega)]
    exact hout b9 h g
  · intro l9 h
    rw [show ∀ a, (uS S 2 b 5 1).2 2 a 1 = S.2 2 a 1 from fun a => uS_o (by omega)]
    exact hl l9 h
  · intro l9 h
    rw [show ∀ a, (uS S 2 b 5 1).2 2 a 1 = S.2 2 a 1 from fun a => uS_o (by omega)]
    exact hp l9 h
  · exact hps
  · exact hw
  · exact ht
  · exact hlk
  · exact fun b9 h => by show lkN (uS S 2 b 5 1) b9 (S.1 2) ≤ 8; rw [show lkN (uS S 2 b 5 1) b9 (S.1 2) = lkN S b9 (S.1 2) from lkN_eq _ (fun l _ => rfl)]; exact hcnt b9 h
  · exact hpr
set_option maxRecDepth 20000 in
theorem ok_seat {S : zS} (hO : ok S) {b s : Nat} {p n w : Int} (h4 : b < S.1 0) (h3 : s < 2) (hp0 : 0 ≤ p ∧ p ≤ S.2 2 b 1) (hn : n = -900009 ∨ (0 ≤ n ∧ n < (b : Int) ∧ 0 ≤ w ∧ w ≤ S.2 2 n.toNat 1)) (hs : S.2 2 b 1 ≤ 3 * ((if s = 0 then S.2 3 b 1 else p) - (if s = 0 then p else S.2 3 b 0))) : ok (uS (uS (uS S 3 b s p) 4 b s n) 5 b s w) := by
  have h12 := hO.n
  obtain ⟨hc, hk, hb, hwf, hout, hl, hp, hps, hw, ht, hlk, hcnt, hpr⟩ := hO
  refine ⟨?_, ?_, ?_, ?_, ?_, ?_, ?_, ?_, ?_, ?_, ?_, ?_, ?_⟩
  · exact hc
  · exact hk
  · intro b9 h
    by_cases e : b9 = b
    · subst e
      have q := hb b9 h4
      rcases (show s = 0 ∨ s = 1 by omega) with e | e
      · subst e
        rw [if_pos rfl, if_pos rfl] at hs
        unfold okB at q ⊢
        rw [show (uS (uS (uS S 3 b9 0 p) 4 b9 0 n) 5 b9 0 w).2 2 = S.2 2 from rfl, show (uS (uS (uS S 3 b9 0 p) 4 b9 0 n) 5 b9 0 w).2 3 b9 0 = p by simp [uS], show (uS (uS (uS S 3 b9 0 p) 4 b9 0 n) 5 b9 0 w).2 3 b9 1 = S.2 3 b9 1 by simp [uS], show (uS (uS (uS S 3 b9 0 p) 4 b9 0 n) 5 b9 0 w).2 4 b9 0 = n by simp [uS], show (uS (uS (uS S 3 b9 0 p) 4 b9 0 n) 5 b9 0 w).2 4 b9 1 = S.2 4 b9 1 by simp [uS], show (uS (uS (uS S 3 b9 0 p) 4 b9 0 n) 5 b9 0 w).2 5 b9 0 = w by simp [uS], show (uS (uS (uS S 3 b9 0 p) 4 b9 0 n) 5 b9 0 w).2 5 b9 1 = S.2 5 b9 1 by simp [uS]]
        exact ⟨q.1, q.2.1, q.2.2.1, q.2.2.2.1, hp0, q.2.2.2.2.2.1, hs, hn, q.2.2.2.2.2.2.2.2⟩
      · subst e
        rw [if_neg (by decide), if_neg (by decide)] at hs
        unfold okB at q ⊢
        rw [show (uS (uS (uS S 3 b9 1 p) 4 b9 1 n) 5 b9 1 w).2 2 = S.2 2 from rfl, show (uS (uS (uS S 3 b9 1 p) 4 b9 1 n) 5 b9 1 w).2 3 b9 1 = p by simp [uS], show (uS (uS (uS S 3 b9 1 p) 4 b9 1 n) 5 b9 1 w).2 3 b9 0 = S.2 3 b9 0 by simp [uS], show (uS (uS (uS S 3 b9 1 p) 4 b9 1 n) 5 b9 1 w).2 4 b9 1 = n by simp [uS], show (uS (uS (uS S 3 b9 1 p) 4 b9 1 n) 5 b9 1 w).2 4 b9 0 = S.2 4 b9 0 by simp [uS], show (uS (uS (uS S 3 b9 1 p) 4 b9 1 n) 5 b9 1 w).2 5 b9 1 = w by simp [uS], show (uS (uS (uS S 3 b9 1 p) 4 b9 1 n) 5 b9 1 w).2 5 b9 0 = S.2 5 b9 0 by simp [uS]]
        exact ⟨q.1, q.2.1, q.2.2.1, q.2.2.2.1, q.2.2.2.2.1, hp0, hs, q.2.2.2.2.2.2.2.1, hn⟩
    · exact okB_of (hb b9 h) rfl (fun _ _ => rfl) rfl rfl (fun t ht => ⟨by simp [uS, e], by simp [uS, e], by simp [uS, e]⟩)
  · exact hwf
  · exact hout
  · exact hl
  · exact hp
  · exact hps
  · exact hw
  · exact ht
  · exact hlk
  · exact fun b9 h => by show lkN (uS (uS (uS S 3 b s p) 4 b s n) 5 b s w) b9 (S.1 2) ≤ 8; rw [show lkN (uS (uS (uS S 3 b s p) 4 b s n) 5 b s w) b9 (S.1 2) = lkN S b9 (S.1 2) from lkN_eq _ (fun l _ => rfl)]; exact hcnt b9 h
  · exact hpr
set_option maxRecDepth 20000 in
theorem ok_weight {S : zS} (hO : ok S) {b t : Nat} {v : Int} (h4 : b < S.1 0) (h3 : t < 11) (hv : 0 ≤ v ∧ v ≤ 99) (ha : anN (fun x => decide (0 < (if (x : Int) = (t : Int) then v else S.2 8 b x))) 11 = true) : ok (uS S 8 b t v) := by
  have h12 := hO.n
  obtain ⟨hc, hk, hb, hwf, hout, hl, hp, hps, hw, ht, hlk, hcnt, hpr⟩ := hO
  refine ⟨?_, ?_, ?_, ?_, ?_, ?_, ?_, ?_, ?_, ?_, ?_, ?_, ?_⟩
  · exact hc
  · exact hk
  · exact hb
  · exact hwf
  · intro b9 h g
    have g : S.1 0 ≤ b9 := g
    refine ⟨(hout b9 h g).1, (hout b9 h g).2.1, fun t9 h9 => ?_⟩
    rw [uS_o (by omega)]
    exact (hout b9 h g).2.2 t9 h9
  · exact hl
  · exact hp
  · exact hps
  · intro b9 h
    refine ⟨fun t9 h9 => ?_, ?_⟩
    · rw [uS_at]
      by_cases e : 8 = 8 ∧ b9 = b ∧ t9 = t
      · rw [if_pos e]; exact hv
      · rw [if_neg e]; exact (hw b9 h).1 t9 h9
    · by_cases e : b9 = b
      · subst e
        obtain ⟨x, hx, hx2⟩ := anN_get 11 ha
        have hx2 := of_decide_eq_true hx2
        refine ⟨x, hx, ?_⟩
        rw [uS_at]
        by_cases z : x = t
        · rw [if_pos (by omega)] at hx2
          rw [if_pos (by omega)]; omega
        · rw [if_neg (by omega)] at hx2
          rw [if_neg (by omega)]; omega
      · obtain ⟨x, hx, hx2⟩ := (hw b9 h).2
        exact ⟨x, hx, by rw [uS_o (by omega)]; exact hx2⟩
  · exact ht
  · exact hlk
  · exact fun b9 h => by show lkN (uS S 8 b t v) b9 (S.1 2) ≤ 8; rw [show lkN (uS S 8 b t v) b9 (S.1 2) = lkN S b9 (S.1 2) from lkN_eq _ (fun l _ => rfl)]; exact hcnt b9 h
  · exact hpr
set_option maxRecDepth 20000 in
theorem ok_tool {S : zS} (hO : ok S) {k t : Nat} {v : Int} (hv : 0 ≤ v ∧ v ≤ 9) : ok (uS S 9 k t v) := by
  have h12 := hO.n
  obtain ⟨hc, hk, hb, hwf, hout, hl, hp, hps, hw, ht, hlk, hcnt, hpr⟩ := hO
  refine ⟨?_, ?_, ?_, ?_, ?_, ?_, ?_, ?_, ?_, ?_, ?_, ?_, ?_⟩
  · exact hc
  · exact hk
  · exact hb
  · exact hwf
  · exact hout
  · exact hl
  · exact hp
  · exact hps
  · exact hw
  · intro k9 h t9 h9
    rw [uS_at]
    by_cases e : 9 = 9 ∧ k9 = k ∧ t9 = t
    · rw [if_pos e]; exact hv
    · rw [if_neg e]; exact ht k9 h t9 h9
  · exact hlk
  · exact fun b9 h => by show lkN (uS S 9 k t v) b9 (S.1 2) ≤ 8; rw [show lkN (uS S 9 k t v) b9 (S.1 2) = lkN S b9 (S.1 2) from lkN_eq _ (fun l _ => rfl)]; exact hcnt b9 h
  · exact hpr
set_option maxRecDepth 20000 in
theorem ok_off {S : zS} (hO : ok S) {w : Nat} : ok (uS S 6 w 3 0) := by
  have h12 := hO.n
  obtain ⟨hc, hk, hb, hwf, hout, hl, hp, hps, hw, ht, hlk, hcnt, hpr⟩ := hO
  refine ⟨?_, ?_, ?_, ?_, ?_, ?_, ?_, ?_, ?_, ?_, ?_, ?_, ?_⟩
  · exact hc
  · exact hk
  · exact hb
  · exact hwf
  · exact hout
  · intro l9 h
    have q := hl l9 h
    rw [show (uS S 6 w 3 0).2 6 l9 0 = S.2 6 l9 0 from uS_o (by omega), show (uS S 6 w 3 0).2 6 l9 1 = S.2 6 l9 1 from uS_o (by omega), show (uS S 6 w 3 0).2 6 l9 2 = S.2 6 l9 2 from uS_o (by omega)]
    refine ⟨q.1, q.2.1, q.2.2.1, ?_⟩
    rw [uS_at]
    by_cases e : 6 = 6 ∧ l9 = w ∧ 3 = 3
    · rw [if_pos e]; exact Or.inl rfl
    · rw [if_neg e]; exact q.2.2.2
  · exact hp
  · exact hps
  · exact hw
  · exact ht
  · exact hlk
  · exact fun b9 h => by show lkN (uS S 6 w 3 0) b9 (S.1 2) ≤ 8; rw [show lkN (uS S 6 w 3 0) b9 (S.1 2) = lkN S b9 (S.1 2) from lkN_eq _ (fun l _ => rfl)]; exact hcnt b9 h
  · exact hpr
set_option maxRecDepth 20000 in
theorem ok_set {S : zS} (hO : ok S) {p : Nat} {z : Int} (h4 : p < S.1 3) (hz : z = 0 ∨ z = 1) : ok (uS S 7 p 3 z) := by
  have h12 := hO.n
  obtain ⟨hc, hk, hb, hwf, hout, hl, hp, hps, hw, ht, hlk, hcnt, hpr⟩ := hO
  refine ⟨?_, ?_, ?_, ?_, ?_, ?_, ?_, ?_, ?_, ?_, ?_, ?_, ?_⟩
  · exact hc
  · exact hk
  · exact hb
  · exact hwf
  · exact hout
  · exact hl
  · intro l9 h
    have q := hp l9 h
    rw [show (uS S 7 p 3 z).2 7 l9 0 = S.2 7 l9 0 from uS_o (by omega), show (uS S 7 p 3 z).2 7 l9 1 = S.2 7 l9 1 from uS_o (by omega), show (uS S 7 p 3 z).2 7 l9 2 = S.2 7 l9 2 from uS_o (by omega)]
    exact q
  · intro l9 h
    have q := hps l9 h
    rw [uS_at]
    by_cases e : 7 = 7 ∧ l9 = p ∧ 3 = 3
    · rw [if_pos e]; exact ⟨hz, fun g => absurd (show S.1 3 ≤ l9 from g) (by omega)⟩
    · rw [if_neg e]; exact q
  · exact hw
  · exact ht
  · exact hlk
  · exact fun b9 h => by show lkN (uS S 7 p 3 z) b9 (S.1 2) ≤ 8; rw [show lkN (uS S 7 p 3 z) b9 (S.1 2) = lkN S b9 (S.1 2) from lkN_eq _ (fun l _ => rfl)]; exact hcnt b9 h
  · exact hpr
set_option maxRecDepth 20000 in
theorem ok_price {S : zS} (hO : ok S) {w : Nat} {v : Int} (hv : 0 ≤ v ∧ v ≤ 9999) : ok (uS S 11 w 0 v) := by
  have h12 := hO.n
  obtain ⟨hc, hk, hb, hwf, hout, hl, hp, hps, hw, ht, hlk, hcnt, hpr⟩ := hO
  refine ⟨?_, ?_, ?_, ?_, ?_, ?_, ?_, ?_, ?_, ?_, ?_, ?_, ?_⟩
  · exact hc
  · exact hk
  · exact hb
  · exact hwf
  · exact hout
  · exact hl
  · exact hp
  · exact hps
  · exact hw
  · exact ht
  · exact hlk
  · exact fun b9 h => by show lkN (uS S 11 w 0 v) b9 (S.1 2) ≤ 8; rw [show lkN (uS S 11 w 0 v) b9 (S.1 2) = lkN S b9 (S.1 2) from lkN_eq _ (fun l _ => rfl)]; exact hcnt b9 h
  · rw [uS_at, uS_at]
    refine ⟨?_, ?_⟩
    · by_cases e : 11 = 11 ∧ 0 = w ∧ 0 = 0
      · rw [if_pos e]; exact hv
      · rw [if_neg e]; exact hpr.1
    · by_cases e : 11 = 11 ∧ 1 = w ∧ 0 = 0
      · rw [if_pos e]; exact hv
      · rw [if_neg e]; exact hpr.2
set_option maxRecDepth 20000 in
theorem ok_load {S : zS} (hO : ok S) {b p v : Int} (h11 : S.1 1 < 40) (hb0 : 0 ≤ b ∧ b < (S.1 0 : Int)) (hp0 : 0 ≤ p ∧ p ≤ S.2 2 b.toNat 1) (hv : 1 ≤ v ∧ v ≤ 9999) : ok (aLoad S b p v) := by
  have h12 := hO.n
  obtain ⟨hc, hk, hb, hwf, hout, hl, hp, hps, hw, ht, hlk, hcnt, hpr⟩ := hO
  refine ⟨?_, ?_, ?_, ?_, ?_, ?_, ?_, ?_, ?_, ?_, ?_, ?_, ?_⟩
  · exact ⟨hc.1, h11, hc.2.2⟩
  · exact hk
  · exact hb
  · exact hwf
  · exact hout
  · intro l9 h
    have h : l9 < S.1 1 + 1 := h
    by_cases e : l9 = S.1 1
    · subst e
      rw [show (aLoad S b p v).2 6 (S.1 1) 0 = b by simp [aLoad, uN, uS], show (aLoad S b p v).2 6 (S.1 1) 1 = p by simp [aLoad, uN, uS], show (aLoad S b p v).2 6 (S.1 1) 2 = v by simp [aLoad, uN, uS], show (aLoad S b p v).2 6 (S.1 1) 3 = 1 by simp [aLoad, uN, uS]]
      exact ⟨hb0, hp0, hv, Or.inr rfl⟩
    · have q := hl l9 (by omega)
      rw [show (aLoad S b p v).2 6 l9 0 = S.2 6 l9 0 by simp [aLoad, uN, uS, e], show (aLoad S b p v).2 6 l9 1 = S.2 6 l9 1 by simp [aLoad, uN, uS, e], show (aLoad S b p v).2 6 l9 2 = S.2 6 l9 2 by simp [aLoad, uN, uS, e], show (aLoad S b p v).2 6 l9 3 = S.2 6 l9 3 by simp [aLoad, uN, uS, e]]
      exact q
  · exact hp
  · exact hps
  · exact hw
  · exact ht
  · exact hlk
  · exact fun b9 h => by show lkN (aLoad S b p v) b9 (S.1 2) ≤ 8; rw [show lkN (aLoad S b p v) b9 (S.1 2) = lkN S b9 (S.1 2) from lkN_eq _ (fun l _ => rfl)]; exact hcnt b9 h
  · exact hpr
set_option maxRecDepth 20000 in
theorem ok_prop {S : zS} (hO : ok S) {b p v : Int} (h11 : S.1 3 < 8) (hb0 : 0 ≤ b ∧ b < (S.1 0 : Int)) (hp0 : 0 ≤ p ∧ p ≤ S.2 2 b.toNat 1) (hv : 1 ≤ v ∧ v ≤ 9999) : ok (aProp S b p v) := by
  have h12 := hO.n
  obtain ⟨hc, hk, hb, hwf, hout, hl, hp, hps, hw, ht, hlk, hcnt, hpr⟩ := hO
  refine ⟨?_, ?_, ?_, ?_, ?_, ?_, ?_, ?_, ?_, ?_, ?_, ?_, ?_⟩
  · exact ⟨hc.1, hc.2.1, hc.2.2.1, h11⟩
  · exact hk
  · exact hb
  · exact hwf
  · exact hout
  · exact hl
  · intro l9 h
    have h : l9 < S.1 3 + 1 := h
    by_cases e : l9 = S.1 3
    · subst e
      rw [show (aProp S b p v).2 7 (S.1 3) 0 = b by simp [aProp, uN, uS], show (aProp S b p v).2 7 (S.1 3) 1 = p by simp [aProp, uN, uS], show (aProp S b p v).2 7 (S.1 3) 2 = v by simp [aProp, uN, uS]]
      exact ⟨hb0, hp0, hv⟩
    · have q := hp l9 (by omega)
      rw [show (aProp S b p v).2 7 l9 0 = S.2 7 l9 0 by simp [aProp, uN, uS, e], show (aProp S b p v).2 7 l9 1 = S.2 7 l9 1 by simp [aProp, uN, uS, e], show (aProp S b p v).2 7 l9 2 = S.2 7 l9 2 by simp [aProp, uN, uS, e]]
      exact q
  · intro l9 h
    rw [show (aProp S b p v).2 7 l9 3 = S.2 7 l9 3 by simp [aProp, uN, uS]]
    exact ⟨(hps l9 h).1, fun g => (hps l9 h).2 (by have g : S.1 3 + 1 ≤ l9 := g; omega)⟩
  · exact hw
  · exact ht
  · exact hlk
  · exact fun b9 h => by show lkN (aProp S b p v) b9 (S.1 2) ≤ 8; rw [show lkN (aProp S b p v) b9 (S.1 2) = lkN S b9 (S.1 2) from lkN_eq _ (fun l _ => rfl)]; exact hcnt b9 h
  · exact hpr
set_option maxRecDepth 20000 in
theorem ok_look {S : zS} (hO : ok S) {b k oc y : Int} (h11 : S.1 2 < 60) (h8 : lkN S b.toNat (S.1 2) < 8) (hb0 : 0 ≤ b ∧ b < (S.1 0 : Int)) (hk0 : 0 ≤ k ∧ k < 4) (hoc : oc = 0 ∨ oc = 1) (hy : 0 ≤ y ∧ y ≤ 500) : ok (aLook S b k oc y) := by
  have h12 := hO.n
  obtain ⟨hc, hk, hb, hwf, hout, hl, hp, hps, hw, ht, hlk, hcnt, hpr⟩ := hO
  refine ⟨?_, ?_, ?_, ?_, ?_, ?_, ?_, ?_, ?_, ?_, ?_, ?_, ?_⟩
  · exact ⟨hc.1, hc.2.1, h11, hc.2.2.2⟩
  · exact hk
  · exact hb
  · exact hwf
  · exact hout
  · exact hl
  · exact hp
  · exact hps
  · exact hw
  · exact ht
  · intro l9 h
    have h : l9 < S.1 2 + 1 := h
    by_cases e : l9 = S.1 2
    · subst e
      rw [show (aLook S b k oc y).2 10 (S.1 2) 0 = b by simp [aLook, uN, uS], show (aLook S b k oc y).2 10 (S.1 2) 1 = k by simp [aLook, uN, uS], show (aLook S b k oc y).2 10 (S.1 2) 2 = oc by simp [aLook, uN, uS], show (aLook S b k oc y).2 10 (S.1 2) 3 = y by simp [aLook, uN, uS]]
      exact ⟨hb0, hk0, hoc, hy⟩
    · have q := hlk l9 (by omega)
      rw [show (aLook S b k oc y).2 10 l9 0 = S.2 10 l9 0 by simp [aLook, uN, uS, e], show (aLook S b k oc y).2 10 l9 1 = S.2 10 l9 1 by simp [aLook, uN, uS, e], show (aLook S b k oc y).2 10 l9 2 = S.2 10 l9 2 by simp [aLook, uN, uS, e], show (aLook S b k oc y).2 10 l9 3 = S.2 10 l9 3 by simp [aLook, uN, uS, e]]
      exact q
  · intro b9 h
    show lkN (aLook S b k oc y) b9 (S.1 2 + 1) ≤ 8
    rw [lkN_succ, lkN_eq (S := S) (S.1 2) (fun l9 hl9 => by simp [aLook, uN, uS, Nat.ne_of_lt hl9]), show (aLook S b k oc y).2 10 (S.1 2) 0 = b by simp [aLook, uN, uS]]
    have q := hcnt b9 h
    by_cases e : b = (b9 : Int)
    · rw [if_pos e]
      rw [e, Int.toNat_natCast] at h8
      omega
    · rw [if_neg e]; exact q
  · exact hpr
set_option maxRecDepth 20000 in
theorem ok_beam {S : zS} (hO : ok S) {k l w h : Int} (h11 : S.1 0 < 12) (hk0 : 0 ≤ k ∧ k < 4) (hl0 : 2 ≤ l ∧ l ≤ 60) (hw0 : 1 ≤ w ∧ w ≤ 40) (hh0 : 1 ≤ h ∧ h ≤ 40) : ok (aBeam S k l w h) := by
  have h12 := hO.n
  obtain ⟨hc, hk, hb, hwf, hout, hl, hp, hps, hw, ht, hlk, hcnt, hpr⟩ := hO
  refine ⟨?_, ?_, ?_, ?_, ?_, ?_, ?_, ?_, ?_, ?_, ?_, ?_, ?_⟩
  · exact ⟨h11, hc.2⟩
  · intro k9 h9
    rw [aBeam_o (by omega), aBeam_o (by omega), aBeam_o (by omega)]
    exact hk k9 h9
  · intro b9 h9
    have h9 : b9 < S.1 0 + 1 := h9
    by_cases e : b9 = S.1 0
    · subst e
      unfold okB
      rw [show (aBeam S k l w h).2 2 (S.1 0) 0 = k by simp [aBeam, uN, uS], show (aBeam S k l w h).2 2 (S.1 0) 1 = l by simp [aBeam, uN, uS], show (aBeam S k l w h).2 2 (S.1 0) 2 = w by simp [aBeam, uN, uS], show (aBeam S k l w h).2 2 (S.1 0) 3 = h by simp [aBeam, uN, uS], show (aBeam S k l w h).2 3 (S.1 0) 0 = 0 by simp [aBeam, uN, uS], show (aBeam S k l w h).2 3 (S.1 0) 1 = l by simp [aBeam, uN, uS], show (aBeam S k l w h).2 4 (S.1 0) 0 = -900009 by simp [aBeam, uN, uS], show (aBeam S k l w h).2 4 (S.1 0) 1 = -900009 by simp [aBeam, uN, uS]]
      exact ⟨hk0, hl0, hw0, hh0, by omega, by omega, by omega, Or.inl rfl, Or.inl rfl⟩
    · exact okB_of (hb b9 (by omega)) (aBeam_o (by omega)) (fun a _ => aBeam_o (by omega)) (aBeam_o (by omega)) (aBeam_o (by omega)) (fun s _ => ⟨aBeam_o (by omega), aBeam_o (by omega), aBeam_o (by omega)⟩)
  · intro b9 h9
    rw [aBeam_o (by omega), aBeam_o (by omega)]
    exact hwf b9 h9
  · intro b9 h9 g
    have g : S.1 0 + 1 ≤ b9 := g
    rw [aBeam_o (by omega), aBeam_o (by omega)]
    refine ⟨(hout b9 h9 (by omega)).1, (hout b9 h9 (by omega)).2.1, fun t h => ?_⟩
    rw [aBeam_o (by omega)]
    exact (hout b9 h9 (by omega)).2.2 t h
  · intro l9 h9
    have q := hl l9 h9
    rw [show ∀ j, (aBeam S k l w h).2 6 l9 j = S.2 6 l9 j from fun j => aBeam_o (by omega), show ∀ j, (aBeam S k l w h).2 6 l9 j = S.2 6 l9 j from fun j => aBeam_o (by omega), show ∀ j, (aBeam S k l w h).2 6 l9 j = S.2 6 l9 j from fun j => aBeam_o (by omega), show ∀ j, (aBeam S k l w h).2 6 l9 j = S.2 6 l9 j from fun j => aBeam_o (by omega), aBeam_o (by omega)]
    exact ⟨⟨q.1.1, by show _ < ((S.1 0 + 1 : Nat) : Int); omega⟩, q.2⟩
  · intro l9 h9
    have q := hp l9 h9
    rw [show ∀ j, (aBeam S k l w h).2 7 l9 j = S.2 7 l9 j from fun j => aBeam_o (by omega), show ∀ j, (aBeam S k l w h).2 7 l9 j = S.2 7 l9 j from fun j => aBeam_o (by omega), show ∀ j, (aBeam S k l w h).2 7 l9 j = S.2 7 l9 j from fun j => aBeam_o (by omega), aBeam_o (by omega)]
    exact ⟨⟨q.1.1, by show _ < ((S.1 0 + 1 : Nat) : Int); omega⟩, q.2⟩
  · intro l9 h9
    rw [aBeam_o (by omega)]
    exact hps l9 h9
  · intro b9 h9
    have q := hw b9 h9
    obtain ⟨x, hx, hx2⟩ := q.2
    exact ⟨fun t h => by rw [aBeam_o (by omega)]; exact q.1 t h, x, hx, by rw [aBeam_o (by omega)]; exact hx2⟩
  · intro b9 h9 t h
    rw [aBeam_o (by omega)]; exact ht b9 h9 t h
  · intro l9 h9
    have q := hlk l9 h9
    rw [show ∀ j, (aBeam S k l w h).2 10 l9 j = S.2 10 l9 j from fun j => aBeam_o (by omega), show ∀ j, (aBeam S k l w h).2 10 l9 j = S.2 10 l9 j from fun j => aBeam_o (by omega), show ∀ j, (aBeam S k l w h).2 10 l9 j = S.2 10 l9 j from fun j => aBeam_o (by omega), show ∀ j, (aBeam S k l w h).2 10 l9 j = S.2 10 l9 j from fun j => aBeam_o (by omega)]
    exact ⟨⟨q.1.1, by show _ < ((S.1 0 + 1 : Nat) : Int); omega⟩, q.2⟩
  · intro b9 h9
    show lkN (aBeam S k l w h) b9 (S.1 2) ≤ 8
    rw [show lkN (aBeam S k l w h) b9 (S.1 2) = lkN S b9 (S.1 2) from lkN_eq _ (fun l9 _ => aBeam_o (by omega))]
    exact hcnt b9 h9
  · rw [aBeam_o (by omega), aBeam_o (by omega)]
    exact hpr
