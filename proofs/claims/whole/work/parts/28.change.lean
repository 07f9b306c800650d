theorem fL_succ (S : zS) (l b x : Nat) : fL S (l + 1) b x = fL S l b x + (if S.2 6 l 0 = (b : Int) ∧ S.2 6 l 1 = (x : Int) ∧ S.2 6 l 3 = 1 then lI (S.2 6 l 2) else 0) := rfl
theorem fL_eq {S T : zS} {b x : Nat} : ∀ n : Nat, (∀ l, l < n → ∀ j, T.2 6 l j = S.2 6 l j) → fL T n b x = fL S n b x
  | 0, _ => rfl
  | n + 1, h => by rw [fL_succ, fL_succ, fL_eq n (fun l hl j => h l (by omega) j), h n (by omega), h n (by omega), h n (by omega), h n (by omega)]
theorem fL_off {S : zS} {w : Nat} {b x : Nat} (h1 : S.2 6 w 3 = 1) : ∀ n : Nat, fL (uS S 6 w 3 0) n b x = if w < n ∧ S.2 6 w 0 = (b : Int) ∧ S.2 6 w 1 = (x : Int) then fL S n b x - lI (S.2 6 w 2) else fL S n b x
  | 0 => by rw [if_neg (by omega)]; rfl
  | n + 1 => by
    rw [fL_succ, fL_succ, fL_off h1 n]
    have e0 : (uS S 6 w 3 0).2 6 n 0 = S.2 6 n 0 := by simp [uS]
    have e1 : (uS S 6 w 3 0).2 6 n 1 = S.2 6 n 1 := by simp [uS]
    have e2 : (uS S 6 w 3 0).2 6 n 2 = S.2 6 n 2 := by simp [uS]
    rw [e0, e1, e2]
    by_cases e : n = w
    · subst e
      have e3 : (uS S 6 n 3 0).2 6 n 3 = 0 := by simp [uS]
      rw [e3, if_neg (by omega), if_neg (by omega)]
      by_cases q : S.2 6 n 0 = (b : Int) ∧ S.2 6 n 1 = (x : Int)
      · rw [if_pos ⟨by omega, q.1, q.2⟩, if_pos ⟨q.1, q.2, h1⟩]; grind
      · rw [if_neg (fun z => q z.2), if_neg (fun z => q ⟨z.1, z.2.1⟩)]
    · have e3 : (uS S 6 w 3 0).2 6 n 3 = S.2 6 n 3 := by simp [uS, e]
      rw [e3]
      by_cases q : S.2 6 w 0 = (b : Int) ∧ S.2 6 w 1 = (x : Int)
      · by_cases z : w < n
        · rw [if_pos (show w < n ∧ S.2 6 w 0 = (b : Int) ∧ S.2 6 w 1 = (x : Int) from ⟨z, q⟩), if_pos (show w < n + 1 ∧ S.2 6 w 0 = (b : Int) ∧ S.2 6 w 1 = (x : Int) from ⟨by omega, q⟩)]; grind
        · rw [if_neg (show ¬ (w < n ∧ S.2 6 w 0 = (b : Int) ∧ S.2 6 w 1 = (x : Int)) by omega), if_neg (show ¬ (w < n + 1 ∧ S.2 6 w 0 = (b : Int) ∧ S.2 6 w 1 = (x : Int)) by omega)]
      · rw [if_neg (show ¬ (w < n ∧ S.2 6 w 0 = (b : Int) ∧ S.2 6 w 1 = (x : Int)) from fun z => q z.2), if_neg (show ¬ (w < n + 1 ∧ S.2 6 w 0 = (b : Int) ∧ S.2 6 w 1 = (x : Int)) from fun z => q z.2)]
theorem lkN_eq {S T : zS} {b : Nat} : ∀ n : Nat, (∀ l, l < n → T.2 10 l 0 = S.2 10 l 0) → lkN T b n = lkN S b n
  | 0, _ => rfl
  | n + 1, h => by rw [lkN_succ, lkN_succ, lkN_eq n (fun l hl => h l (by omega)), h n (by omega)]
theorem anN_get {p : Nat → Bool} : ∀ n : Nat, anN p n = true → ∃ k, k < n ∧ p k = true
  | 0, h => absurd (show false = true from h) (by decide)
  | n + 1, h => by
    rw [anN_succ, Bool.or_eq_true] at h
    rcases h with h | h
    · obtain ⟨k, h1, h2⟩ := anN_get n h
      exact ⟨k, by omega, h2⟩
    · exact ⟨n, by omega, h⟩
theorem zI_o {M : zM} {k i a b : Nat} {z : Int} (h : ¬ (a = k ∧ b = i)) : (zI M k i z).1 a b = M.1 a b := by rw [zI_at, if_neg h]
theorem uS_o {S : zS} {f i j a b c : Nat} {v : Int} (h : ¬ (a = f ∧ b = i ∧ c = j)) : (uS S f i j v).2 a b c = S.2 a b c := by rw [uS_at, if_neg h]
theorem ite2 {c d : Prop} [Decidable c] [Decidable d] {v x y : Int} (h : c ↔ d) (e : x = y) : (if c then v else x) = (if d then v else y) := by
  by_cases q : c
  · rw [if_pos q, if_pos (h.mp q)]
  · rw [if_neg q, if_neg (fun z => q (h.mpr z)), e]
set_option maxRecDepth 20000 in
theorem RX_kind {S : zS} {M : zM} (hR : RX S M) (hO : ok S) {k w : Nat} {v : Int} (h4 : k < 4) (h3 : w < 3) : RX (uS S 1 k w v) (zI M (9 + k) w v) := by
  have h12 := hO.n
  obtain ⟨⟨n0, n1, n2, n3⟩, hk, hb, hb2, ⟨m, hm1, hm2, hm3⟩, hl, hp, ⟨m2, hn1, hn2, hn3⟩, hw, ht, hlk, hpr⟩ := hR
  refine ⟨?_, ?_, ?_, ?_, ?_, ?_, ?_, ?_, ?_, ?_, ?_, ?_⟩
  · exact ⟨(by rw [zI_o (by omega)]; exact n0), (by rw [zI_o (by omega)]; exact n1), (by rw [zI_o (by omega)]; exact n2), (by rw [zI_o (by omega)]; exact n3)⟩
  · exact fun k9 h1 w9 h2 => (by rw [zI_at, uS_at]; exact ite2 (by omega) (hk k9 h1 w9 h2))
  · exact fun b9 h1 => ⟨⟨(by rw [zI_o (by omega)]; exact (hb b9 h1).1.1), (by rw [zI_o (by omega)]; exact (hb b9 h1).1.2.1), (by rw [zI_o (by omega)]; exact (hb b9 h1).1.2.2.1), (by rw [zI_o (by omega)]; exact (hb b9 h1).1.2.2.2)⟩, fun s9 hs => ⟨(by rw [zI_o (by omega)]; exact ((hb b9 h1).2 s9 hs).1), (by rw [zI_o (by omega)]; exact ((hb b9 h1).2 s9 hs).2.1), fun e => (by rw [zI_o (by omega)]; exact ((hb b9 h1).2 s9 hs).2.2 e)⟩⟩
  · exact fun b9 h1 => ⟨(by rw [zI_o (by omega)]; exact (hb2 b9 h1).1), fun x9 hx => ((hb2 b9 h1).2 x9 hx).trans (fL_eq (S := S) (T := uS S 1 k w v) (S.1 1) (fun _ _ _ => rfl)).symm⟩
  · exact ⟨m, (by rw [zI_o (by omega)]; exact hm1), hm2, hm3⟩
  · exact fun l9 h1 => ⟨(by rw [zI_o (by omega)]; exact (hl l9 h1).1), (by rw [zI_o (by omega)]; exact (hl l9 h1).2.1), (by rw [zI_o (by omega)]; exact (hl l9 h1).2.2.1), (by rw [zI_o (by omega)]; exact (hl l9 h1).2.2.2)⟩
  · exact fun p9 h1 => ⟨(by rw [zI_o (by omega)]; exact (hp p9 h1).1), (by rw [zI_o (by omega)]; exact (hp p9 h1).2.1), (by rw [zI_o (by omega)]; exact (hp p9 h1).2.2)⟩
  · exact ⟨m2, (by rw [zI_o (by omega)]; exact hn1), hn2, hn3⟩
  · exact fun b9 h1 t9 h2 => (by rw [zI_o (by omega)]; exact hw b9 h1 t9 h2)
  · exact fun k9 h1 t9 h2 => (by rw [zI_o (by omega)]; exact ht k9 h1 t9 h2)
  · exact fun l9 h1 => ⟨(by rw [zI_o (by omega)]; exact (hlk l9 h1).1), (by rw [zI_o (by omega)]; exact (hlk l9 h1).2.1), (by rw [zI_o (by omega)]; exact (hlk l9 h1).2.2.1), (by rw [zI_o (by omega)]; exact (hlk l9 h1).2.2.2)⟩
  · exact ⟨(by rw [zI_o (by omega)]; exact hpr.1), (by rw [zI_o (by omega)]; exact hpr.2)⟩
set_option maxRecDepth 20000 in
theorem RX_wet {S : zS} {M : zM} (hR : RX S M) (hO : ok S) {b : Nat} {z : Int} (h4 : b < 12) : RX (uS S 2 b 4 z) (zI M (45 + 7 * b) 4 z) := by
  have h12 := hO.n
  obtain ⟨⟨n0, n1, n2, n3⟩, hk, hb, hb2, ⟨m, hm1, hm2, hm3⟩, hl, hp, ⟨m2, hn1, hn2, hn3⟩, hw, ht, hlk, hpr⟩ := hR
  refine ⟨?_, ?_, ?_, ?_, ?_, ?_, ?_, ?_, ?_, ?_, ?_, ?_⟩
  · exact ⟨(by rw [zI_o (by omega)]; exact n0), (by rw [zI_o (by omega)]; exact n1), (by rw [zI_o (by omega)]; exact n2), (by rw [zI_o (by omega)]; exact n3)⟩
  · exact fun k9 h1 w9 h2 => (by rw [zI_o (by omega)]; exact hk k9 h1 w9 h2)
  · exact fun b9 h1 => ⟨⟨(by rw [zI_o (by omega), uS_o (by omega)]; exact (hb b9 h1).1.1), (by rw [zI_o (by omega), uS_o (by omega)]; exact (hb b9 h1).1.2.1), (by rw [zI_o (by omega), uS_o (by omega)]; exact (hb b9 h1).1.2.2.1), (by rw [zI_o (by omega), uS_o (by omega)]; exact (hb b9 h1).1.2.2.2)⟩, fun s9 hs => (by rw [zI_o (by omega), zI_o (by omega), zI_o (by omega)]; exact (hb b9 h1).2 s9 hs)⟩
  · exact fun b9 h1 => ⟨(by rw [zI_at, uS_at]; exact ite2 (by omega) ((hb2 b9 h1).1)), fun x9 hx => ((hb2 b9 h1).2 x9 hx).trans (fL_eq (S := S) (T := uS S 2 b 4 z) (S.1 1) (fun _ _ _ => rfl)).symm⟩
  · exact ⟨m, (by rw [zI_o (by omega)]; exact hm1), hm2, fun i hi => (hm3 i hi).trans (by unfold flS; rw [uS_o (by omega)])⟩
  · exact fun l9 h1 => ⟨(by rw [zI_o (by omega)]; exact (hl l9 h1).1), (by rw [zI_o (by omega)]; exact (hl l9 h1).2.1), (by rw [zI_o (by omega)]; exact (hl l9 h1).2.2.1), (by rw [zI_o (by omega)]; exact (hl l9 h1).2.2.2)⟩
  · exact fun p9 h1 => ⟨(by rw [zI_o (by omega)]; exact (hp p9 h1).1), (by rw [zI_o (by omega)]; exact (hp p9 h1).2.1), (by rw [zI_o (by omega)]; exact (hp p9 h1).2.2)⟩
  · exact ⟨m2, (by rw [zI_o (by omega)]; exact hn1), hn2, hn3⟩
  · exact fun b9 h1 t9 h2 => (by rw [zI_o (by omega)]; exact hw b9 h1 t9 h2)
  · exact fun k9 h1 t9 h2 => (by rw [zI_o (by omega)]; exact ht k9 h1 t9 h2)
  · exact fun l9 h1 => ⟨(by rw [zI_o (by omega)]; exact (hlk l9 h1).1), (by rw [zI_o (by omega)]; exact (hlk l9 h1).2.1), (by rw [zI_o (by omega)]; exact (hlk l9 h1).2.2.1), (by rw [zI_o (by omega)]; exact (hlk l9 h1).2.2.2)⟩
  · exact ⟨(by rw [zI_o (by omega)]; exact hpr.1), (by rw [zI_o (by omega)]; exact hpr.2)⟩
set_option maxRecDepth 20000 in
theorem RX_seat {S : zS} {M : zM} (hR : RX S M) (hO : ok S) {b s : Nat} {p n w : Int} (h4 : b < S.1 0) (h3 : s < 2) : RX (uS (uS (uS S 3 b s p) 4 b s n) 5 b s w) (zI (zI (zI M (45 + 7 * b + 1) s p) (45 + 7 * b + 2) s n) (45 + 7 * b + 3) s (if n = -900009 then 0 else w)) := by
  have h12 := hO.n
  obtain ⟨⟨n0, n1, n2, n3⟩, hk, hb, hb2, ⟨m, hm1, hm2, hm3⟩, hl, hp, ⟨m2, hn1, hn2, hn3⟩, hw, ht, hlk, hpr⟩ := hR
  refine ⟨?_, ?_, ?_, ?_, ?_, ?_, ?_, ?_, ?_, ?_, ?_, ?_⟩
  · exact ⟨(by rw [zI_o (by omega), zI_o (by omega), zI_o (by omega)]; exact n0), (by rw [zI_o (by omega), zI_o (by omega), zI_o (by omega)]; exact n1), (by rw [zI_o (by omega), zI_o (by omega), zI_o (by omega)]; exact n2), (by rw [zI_o (by omega), zI_o (by omega), zI_o (by omega)]; exact n3)⟩
  · exact fun k9 h1 w9 h2 => (by rw [zI_o (by omega), zI_o (by omega), zI_o (by omega)]; exact hk k9 h1 w9 h2)
  · exact fun b9 h1 => ⟨⟨(by rw [zI_o (by omega), zI_o (by omega), zI_o (by omega)]; exact (hb b9 h1).1.1), (by rw [zI_o (by omega), zI_o (by omega), zI_o (by omega)]; exact (hb b9 h1).1.2.1), (by rw [zI_o (by omega), zI_o (by omega), zI_o (by omega)]; exact (hb b9 h1).1.2.2.1), (by rw [zI_o (by omega), zI_o (by omega), zI_o (by omega)]; exact (hb b9 h1).1.2.2.2)⟩, fun s9 hs => ⟨by
      show _ = (uS S 3 b s p).2 3 b9 s9
      rw [zI_o (by omega), zI_o (by omega), zI_at, uS_at]
      exact ite2 (by omega) ((hb b9 h1).2 s9 hs).1, by
      show _ = (uS (uS S 3 b s p) 4 b s n).2 4 b9 s9
      rw [zI_o (by omega), zI_at, uS_at, zI_o (by omega)]
      exact ite2 (by omega) ((hb b9 h1).2 s9 hs).2.1, fun e => by
      have e : (uS (uS S 3 b s p) 4 b s n).2 4 b9 s9 ≠ -900009 := e
      rw [uS_at] at e
      rw [zI_at, uS_at, zI_o (by omega), zI_o (by omega)]
      by_cases z : b9 = b ∧ s9 = s
      · rw [if_pos (by omega)] at e
        rw [if_pos (show 45 + 7 * b9 + 3 = 45 + 7 * b + 3 ∧ s9 = s by omega), if_pos (show 5 = 5 ∧ b9 = b ∧ s9 = s by omega), if_neg e]
      · rw [if_neg (by omega)] at e
        rw [if_neg (by omega), if_neg (by omega)]
        exact ((hb b9 h1).2 s9 hs).2.2 e⟩⟩
  · exact fun b9 h1 => ⟨(by rw [zI_o (by omega), zI_o (by omega), zI_o (by omega)]; exact (hb2 b9 h1).1), fun x9 hx => ((hb2 b9 h1).2 x9 hx).trans (fL_eq (S := S) (T := uS (uS (uS S 3 b s p) 4 b s n) 5 b s w) (S.1 1) (fun _ _ _ => rfl)).symm⟩
  · exact ⟨m, (by rw [zI_o (by omega), zI_o (by omega), zI_o (by omega)]; exact hm1), hm2, hm3⟩
  · exact fun l9 h1 => ⟨(by rw [zI_o (by omega), zI_o (by omega), zI_o (by omega)]; exact (hl l9 h1).1), (by rw [zI_o (by omega), zI_o (by omega), zI_o (by omega)]; exact (hl l9 h1).2.1), (by rw [zI_o (by omega), zI_o (by omega), zI_o (by omega)]; exact (hl l9 h1).2.2.1), (by rw [zI_o (by omega), zI_o (by omega), zI_o (by omega)]; exact (hl l9 h1).2.2.2)⟩
  · exact fun p9 h1 => ⟨(by rw [zI_o (by omega), zI_o (by omega), zI_o (by omega)]; exact (hp p9 h1).1), (by rw [zI_o (by omega), zI_o (by omega), zI_o (by omega)]; exact (hp p9 h1).2.1), (by rw [zI_o (by omega), zI_o (by omega), zI_o (by omega)]; exact (hp p9 h1).2.2)⟩
  · exact ⟨m2, (by rw [zI_o (by omega), zI_o (by omega), zI_o (by omega)]; exact hn1), hn2, hn3⟩
  · exact fun b9 h1 t9 h2 => (by rw [zI_o (by omega), zI_o (by omega), zI_o (by omega)]; exact hw b9 h1 t9 h2)
  · exact fun k9 h1 t9 h2 => (by rw [zI_o (by omega), zI_o (by omega), zI_o (by omega)]; exact ht k9 h1 t9 h2)
  · exact fun l9 h1 => ⟨(by rw [zI_o (by omega), zI_o (by omega), zI_o (by omega)]; exact (hlk l9 h1).1), (by rw [zI_o (by omega), zI_o (by omega), zI_o (by omega)]; exact (hlk l9 h1).2.1), (by rw [zI_o (by omega), zI_o (by omega), zI_o (by omega)]; exact (hlk l9 h1).2.2.1), (by rw [zI_o (by omega), zI_o (by omega), zI_o (by omega)]; exact (hlk l9 h1).2.2.2)⟩
  · exact ⟨(by rw [zI_o (by omega), zI_o (by omega), zI_o (by omega)]; exact hpr.1), (by rw [zI_o (by omega), zI_o (by omega), zI_o (by omega)]; exact hpr.2)⟩
theorem aB_e {S : zS} {M : zM} {k l w h : Int} {a i : Nat} (q : (a ≠ 1 ∨ i ≠ 2) ∧ (a < 45 + 7 * S.1 0 ∨ 45 + 7 * S.1 0 + 4 ≤ a ∨ (a = 45 + 7 * S.1 0 ∧ 4 ≤ i))) : (zI (zI (zI (zI (zI (zI (zI (zI (zI (zI (zI M (45 + 7 * S.1 0) 0 k) (45 + 7 * S.1 0) 1 l) (45 + 7 * S.1 0) 2 w) (45 + 7 * S.1 0) 3 h) (45 + 7 * S.1 0 + 1) 0 0) (45 + 7 * S.1 0 + 2) 0 (-900009)) (45 + 7 * S.1 0 + 3) 0 0) (45 + 7 * S.1 0 + 1) 1 l) (45 + 7 * S.1 0 + 2) 1 (-900009)) (45 + 7 * S.1 0 + 3) 1 0) 1 2 ((S.1 0 : Int) + 1)).1 a i = M.1 a i := by
  simp only [zI_at]
  rw [if_neg (by omega), if_neg (by omega), if_neg (by omega), if_neg (by omega), if_neg (by omega), if_neg (by omega), if_neg (by omega), if_neg (by omega), if_neg (by omega), if_neg (by omega), if_neg (by omega)]
theorem aB_n {S : zS} {M : zM} {k l w h : Int} : (zI (zI (zI (zI (zI (zI (zI (zI (zI (zI (zI M (45 + 7 * S.1 0) 0 k) (45 + 7 * S.1 0) 1 l) (45 + 7 * S.1 0) 2 w) (45 + 7 * S.1 0) 3 h) (45 + 7 * S.1 0 + 1) 0 0) (45 + 7 * S.1 0 + 2) 0 (-900009)) (45 + 7 * S.1 0 + 3) 0 0) (45 + 7 * S.1 0 + 1) 1 l) (45 + 7 * S.1 0 + 2) 1 (-900009)) (45 + 7 * S.1 0 + 3) 1 0) 1 2 ((S.1 0 : Int) + 1)).1 1 2 = (S.1 0 : Int) + 1 := zI_same _ _ _ _
theorem aBeam_o {S : zS} {k l w h : Int} {f b j : Nat} (q : (f ≠ 2 ∧ f ≠ 3 ∧ f ≠ 4) ∨ b ≠ S.1 0 ∨ (f = 2 ∧ 4 ≤ j)) : (aBeam S k l w h).2 f b j = S.2 f b j := by
  simp only [aBeam, uN_2, uS_at]
  rw [if_neg (by omega), if_neg (by omega), if_neg (by omega), if_neg (by omega), if_neg (by omega), if_neg (by omega), if_neg (by omega), if_neg (by omega)]
set_option maxRecDepth 20000 in
theorem RX_beam {S : zS} {M : zM} (hR : RX S M) (hO : ok S) {k l w h : Int} (h11 : S.1 0 < 12) : RX (aBeam S k l w h) (zI (zI (zI (zI (zI (zI (zI (zI (zI (zI (zI M (45 + 7 * S.1 0) 0 k) (45 + 7 * S.1 0) 1 l) (45 + 7 * S.1 0) 2 w) (45 + 7 * S.1 0) 3 h) (45 + 7 * S.1 0 + 1) 0 0) (45 + 7 * S.1 0 + 2) 0 (-900009)) (45 + 7 * S.1 0 + 3) 0 0) (45 + 7 * S.1 0 + 1) 1 l) (45 + 7 * S.1 0 + 2) 1 (-900009)) (45 + 7 * S.1 0 + 3) 1 0) 1 2 ((S.1 0 : Int) + 1)) := by
  have h12 := hO.n
  obtain ⟨⟨n0, n1, n2, n3⟩, hk, hb, hb2, ⟨m, hm1, hm2, hm3⟩, hl, hp, ⟨m2, hn1, hn2, hn3⟩, hw, ht, hlk, hpr⟩ := hR
  refine ⟨?_, ?_, ?_, ?_, ?_, ?_, ?_, ?_, ?_, ?_, ?_, ?_⟩
  · exact ⟨aB_n, (by rw [aB_e (by omega)]; exact n1), (by rw [aB_e (by omega)]; exact n2), (by rw [aB_e (by omega)]; exact n3)⟩
  · exact fun k9 h1 w9 h2 => (by rw [aB_e (by omega), aBeam_o (by omega)]; exact hk k9 h1 w9 h2)
  · exact fun b9 h1 => by
      have h1 : b9 < S.1 0 + 1 := h1
      by_cases e : b9 = S.1 0
      · subst e
        refine ⟨⟨by simp [aBeam, uN, uS, zI], by simp [aBeam, uN, uS, zI], by simp [aBeam, uN, uS, zI] <;> omega, by simp [aBeam, uN, uS, zI]⟩, fun s9 hs => ?_⟩
        rcases (show s9 = 0 ∨ s9 = 1 by omega) with e | e <;> subst e <;> simp [aBeam, uN, uS, zI]
      · obtain ⟨⟨q1, q2, q3, q4⟩, q5⟩ := hb b9 (by omega)
        refine ⟨⟨by rw [aB_e (by omega), aBeam_o (by omega)]; exact q1, by rw [aB_e (by omega), aBeam_o (by omega)]; exact q2, by rw [aB_e (by omega), aBeam_o (by omega)]; exact q3, by rw [aB_e (by omega), aBeam_o (by omega)]; exact q4⟩, fun s9 hs => ?_⟩
        rw [aB_e (by omega), aB_e (by omega), aB_e (by omega), aBeam_o (by omega), aBeam_o (by omega), aBeam_o (by omega)]
        exact q5 s9 hs
  · exact fun b9 h1 => ⟨(by rw [aB_e (by omega), aBeam_o (by omega)]; exact (hb2 b9 h1).1), fun x9 hx => ((hb2 b9 h1).2 x9 hx).trans (fL_eq _ (fun _ _ _ => aBeam_o (by omega))).symm⟩
  · exact ⟨m, (by rw [aB_e (by omega)]; exact hm1), hm2, fun i hi => (hm3 i hi).trans (by unfold flS; rw [aBeam_o (by omega)])⟩
  · exact fun l9 h1 => ⟨(by rw [aB_e (by omega), aBeam_o (by omega)]; exact (hl l9 h1).1), (by rw [aB_e (by omega), aBeam_o (by omega)]; exact (hl l9 h1).2.1), (by rw [aB_e (by omega), aBeam_o (by omega)]; exact (hl l9 h1).2.2.1), (by rw [aB_e (by omega), aBeam_o (by omega)]; exact (hl l9 h1).2.2.2)⟩
  · exact fun p9 h1 => ⟨(by rw [aB_e (by omega), aBeam_o (by omega)]; exact (hp p9 h1).1), (by rw [aB_e (by omega), aBeam_o (by omega)]; exact (hp p9 h1).2.1), (by rw [aB_e (by omega), aBeam_o (by omega)]; exact (hp p9 h1).2.2)⟩
  · exact ⟨m2, (by rw [aB_e (by omega)]; exact hn1), hn2, fun i hi => (hn3 i hi).trans (by unfold psS; rw [aBeam_o (by omega)])⟩
  · exact fun b9 h1 t9 h2 => (by rw [aB_e (by omega), aBeam_o (by omega)]; exact hw b9 h1 t9 h2)
  · exact fun k9 h1 t9 h2 => (by rw [aB_e (by omega), aBeam_o (by omega)]; exact ht k9 h1 t9 h2)
  · exact fun l9 h1 => ⟨(by rw [aB_e (by omega), aBeam_o (by omega)]; exact (hlk l9 h1).1), (by rw [aB_e (by omega), aBeam_o (by omega)]; exact (hlk l9 h1).2.1), (by rw [aB_e (by omega), aBeam_o (by omega)]; exact (hlk l9 h1).2.2.1), (by rw [aB_e (by omega), aBeam_o (by omega)]; exact (hlk l9 h1).2.2.2)⟩
  · exact ⟨(by rw [aB_e (by omega), aBeam_o (by omega)]; exact hpr.1), (by rw [aB_e (by omega), aBeam_o (by omega)]; exact hpr.2)⟩
set_option maxRecDepth 20000 in
theorem RX_load {S : zS} {M : zM} (hR : RX S M) (hO : ok S) {b p : Nat} {v : Int} (h11 : S.1 1 < 40) (hb12 : b < 12) (hp61 : p < 61) : RX (aLoad S (b : Int) (p : Int) v) (zI (zJ (zI (zI (zI (zI M 14 (S.1 1) (b : Int)) 15 (S.1 1) (p : Int)) 16 (S.1 1) v) 17 (S.1 1) 1) (45 + 7 * b + 4) p (M.2 (45 + 7 * b + 4) p + lI v)) 1 8 ((S.1 1 : Int) + 1)) := by
  have h12 := hO.n
  obtain ⟨⟨n0, n1, n2, n3⟩, hk, hb, hb2, ⟨m, hm1, hm2, hm3⟩, hl, hp, ⟨m2, hn1, hn2, hn3⟩, hw, ht, hlk, hpr⟩ := hR
  refine ⟨?_, ?_, ?_, ?_, ?_, ?_, ?_, ?_, ?_, ?_, ?_, ?_⟩
  · exact ⟨(by rw [zI_o (by omega), zJ_1, zI_o (by omega), zI_o (by omega), zI_o (by omega), zI_o (by omega)]; exact n0), (zI_same _ _ _ _), (by rw [zI_o (by omega), zJ_1, zI_o (by omega), zI_o (by omega), zI_o (by omega), zI_o (by omega)]; exact n2), (by rw [zI_o (by omega), zJ_1, zI_o (by omega), zI_o (by omega), zI_o (by omega), zI_o (by omega)]; exact n3)⟩
  · exact fun k9 h1 w9 h2 => (by rw [zI_o (by omega), zJ_1, zI_o (by omega), zI_o (by omega), zI_o (by omega), zI_o (by omega)]; exact hk k9 h1 w9 h2)
  · exact fun b9 h1 => ⟨⟨(by rw [zI_o (by omega), zJ_1, zI_o (by omega), zI_o (by omega), zI_o (by omega), zI_o (by omega)]; exact (hb b9 h1).1.1), (by rw [zI_o (by omega), zJ_1, zI_o (by omega), zI_o (by omega), zI_o (by omega), zI_o (by omega)]; exact (hb b9 h1).1.2.1), (by rw [zI_o (by omega), zJ_1, zI_o (by omega), zI_o (by omega), zI_o (by omega), zI_o (by omega)]; exact (hb b9 h1).1.2.2.1), (by rw [zI_o (by omega), zJ_1, zI_o (by omega), zI_o (by omega), zI_o (by omega), zI_o (by omega)]; exact (hb b9 h1).1.2.2.2)⟩, fun s9 hs => ⟨(by rw [zI_o (by omega), zJ_1, zI_o (by omega), zI_o (by omega), zI_o (by omega), zI_o (by omega)]; exact ((hb b9 h1).2 s9 hs).1), (by rw [zI_o (by omega), zJ_1, zI_o (by omega), zI_o (by omega), zI_o (by omega), zI_o (by omega)]; exact ((hb b9 h1).2 s9 hs).2.1), fun e => (by rw [zI_o (by omega), zJ_1, zI_o (by omega), zI_o (by omega), zI_o (by omega), zI_o (by omega)]; exact ((hb b9 h1).2 s9 hs).2.2 e)⟩⟩
  · exact fun b9 h1 => ⟨(by rw [zI_o (by omega), zJ_1, zI_o (by omega), zI_o (by omega), zI_o (by omega), zI_o (by omega)]; exact (hb2 b9 h1).1), fun x9 hx => by
      show _ = fL _ (S.1 1 + 1) b9 x9
      rw [fL_succ, fL_eq (S := S) (T := aLoad S (b : Int) (p : Int) v) (S.1 1) (fun l9 hl9 j => by simp [aLoad, uN, uS, Nat.ne_of_lt hl9]), ← (hb2 b9 h1).2 x9 hx]
      have e0 : (aLoad S (b : Int) (p : Int) v).2 6 (S.1 1) 0 = (b : Int) := by simp [aLoad, uN, uS]
      have e1 : (aLoad S (b : Int) (p : Int) v).2 6 (S.1 1) 1 = (p : Int) := by simp [aLoad, uN, uS]
      have e2 : (aLoad S (b : Int) (p : Int) v).2 6 (S.1 1) 2 = v := by simp [aLoad, uN, uS]
      have e3 : (aLoad S (b : Int) (p : Int) v).2 6 (S.1 1) 3 = 1 := by simp [aLoad, uN, uS]
      rw [e0, e1, e2, e3, zI_2, zJ_at]
      by_cases e : b9 = b ∧ x9 = p
      · rw [if_pos (by omega), if_pos (by omega), e.1, e.2]
      · rw [if_neg (by omega), if_neg (by omega), Int64.add_zero]; rfl⟩
  · exact ⟨m, (by rw [zI_o (by omega), zJ_1, zI_o (by omega), zI_o (by omega), zI_o (by omega), zI_o (by omega)]; exact hm1), hm2, hm3⟩
  · exact fun l9 h1 => by
      have h1 : l9 < S.1 1 + 1 := h1
      by_cases e : l9 = S.1 1
      · subst e
        simp [aLoad, uN, uS, zI, zJ]
      · have q := hl l9 (by omega)
        simp [aLoad, uN, uS, zI, zJ, e]
        exact q
  · exact fun p9 h1 => ⟨(by rw [zI_o (by omega), zJ_1, zI_o (by omega), zI_o (by omega), zI_o (by omega), zI_o (by omega)]; exact (hp p9 h1).1), (by rw [zI_o (by omega), zJ_1, zI_o (by omega), zI_o (by omega), zI_o (by omega), zI_o (by omega)]; exact (hp p9 h1).2.1), (by rw [zI_o (by omega), zJ_1, zI_o (by omega), zI_o (by omega), zI_o (by omega), zI_o (by omega)]; exact (hp p9 h1).2.2)⟩
  · exact ⟨m2, (by rw [zI_o (by omega), zJ_1, zI_o (by omega), zI_o (by omega), zI_o (by omega), zI_o (by omega)]; exact hn1), hn2, hn3⟩
  · exact fun b9 h1 t9 h2 => (by rw [zI_o (by omega), zJ_1, zI_o (by omega), zI_o (by omega), zI_o (by omega), zI_o (by omega)]; exact hw b9 h1 t9 h2)
  · exact fun k9 h1 t9 h2 => (by rw [zI_o (by omega), zJ_1, zI_o (by omega), zI_o (by omega), zI_o (by omega), zI_o (by omega)]; exact ht k9 h1 t9 h2)
  · exact fun l9 h1 => ⟨(by rw [zI_o (by omega), zJ_1, zI_o (by omega), zI_o (by omega), zI_o (by omega), zI_o (by omega)]; exact (hlk l9 h1).1), (by rw [zI_o (by omega), zJ_1, zI_o (by omega), zI_o (by omega), zI_o (by omega), zI_o (by omega)]; exact (hlk l9 h1).2.1), (by rw [zI_o (by omega), zJ_1, zI_o (by omega), zI_o (by omega), zI_o (by omega), zI_o (by omega)]; exact (hlk l9 h1).2.2.1), (by rw [zI_o (by omega), zJ_1, zI_o (by omega), zI_o (by omega), zI_o (by omega), zI_o (by omega)]; exact (hlk l9 h1).2.2.2)⟩
  · exact ⟨(by rw [zI_o (by omega), zJ_1, zI_o (by omega), zI_o (by omega), zI_o (by omega), zI_o (by omega)]; exact hpr.1), (by rw [zI_o (by omega), zJ_1, zI_o (by omega), zI_o (by omega), zI_o (by omega), zI_o (by omega)]; exact hpr.2)⟩
set_option maxRecDepth 20000 in
theorem RX_off {S : zS} {M : zM} (hR : RX S M) (hO : ok S) {w b p : Nat} {v : Int} (h11 : w < S.1 1) (e0 : S.2 6 w 0 = (b : Int)) (e1 : S.2 6 w 1 = (p : Int)) (e2 : S.2 6 w 2 = v) (e3 : S.2 6 w 3 = 1) : RX (uS S 6 w 3 0) (zJ (zI M 17 w 0) (45 + 7 * b + 4) p (M.2 (45 + 7 * b + 4) p - lI v)) := by
  have h12 := hO.n
  obtain ⟨⟨n0, n1, n2, n3⟩, hk, hb, hb2, ⟨m, hm1, hm2, hm3⟩, hl, hp, ⟨m2, hn1, hn2, hn3⟩, hw, ht, hlk, hpr⟩ := hR
  refine ⟨?_, ?_, ?_, ?_, ?_, ?_, ?_, ?_, ?_, ?_, ?_, ?_⟩
  · exact ⟨(by rw [zJ_1, zI_o (by omega)]; exact n0), (by rw [zJ_1, zI_o (by omega)]; exact n1), (by rw [zJ_1, zI_o (by omega)]; exact n2), (by rw [zJ_1, zI_o (by omega)]; exact n3)⟩
  · exact fun k9 h1 w9 h2 => (by rw [zJ_1, zI_o (by omega)]; exact hk k9 h1 w9 h2)
  · exact fun b9 h1 => ⟨⟨(by rw [zJ_1, zI_o (by omega)]; exact (hb b9 h1).1.1), (by rw [zJ_1, zI_o (by omega)]; exact (hb b9 h1).1.2.1), (by rw [zJ_1, zI_o (by omega)]; exact (hb b9 h1).1.2.2.1), (by rw [zJ_1, zI_o (by omega)]; exact (hb b9 h1).1.2.2.2)⟩, fun s9 hs => ⟨(by rw [zJ_1, zI_o (by omega)]; exact ((hb b9 h1).2 s9 hs).1), (by rw [zJ_1, zI_o (by omega)]; exact ((hb b9 h1).2 s9 hs).2.1), fun e => (by rw [zJ_1, zI_o (by omega)]; exact ((hb b9 h1).2 s9 hs).2.2 e)⟩⟩
  · exact fun b9 h1 => ⟨(by rw [zJ_1, zI_o (by omega)]; exact (hb2 b9 h1).1), fun x9 hx => by
      show _ = fL (uS S 6 w 3 0) (S.1 1) b9 x9
      rw [fL_off e3, e0, e1, e2, ← (hb2 b9 h1).2 x9 hx, zJ_at]
      by_cases e : b9 = b ∧ x9 = p
      · rw [if_pos (by omega), if_pos (by omega), e.1, e.2]
      · rw [if_neg (by omega), if_neg (by omega)]; rfl⟩
  · exact ⟨m, (by rw [zJ_1, zI_o (by omega)]; exact hm1), hm2, hm3⟩
  · exact fun l9 h1 => ⟨(by rw [zJ_1, zI_o (by omega), uS_o (by omega)]; exact (hl l9 h1).1), (by rw [zJ_1, zI_o (by omega), uS_o (by omega)]; exact (hl l9 h1).2.1), (by rw [zJ_1, zI_o (by omega), uS_o (by omega)]; exact (hl l9 h1).2.2.1), (by rw [zJ_1, zI_at, uS_at]; exact ite2 (by omega) (hl l9 h1).2.2.2)⟩
  · exact fun p9 h1 => ⟨(by rw [zJ_1, zI_o (by omega)]; exact (hp p9 h1).1), (by rw [zJ_1, zI_o (by omega)]; exact (hp p9 h1).2.1), (by rw [zJ_1, zI_o (by omega)]; exact (hp p9 h1).2.2)⟩
  · exact ⟨m2, (by rw [zJ_1, zI_o (by omega)]; exact hn1), hn2, hn3⟩
  · exact fun b9 h1 t9 h2 => (by rw [zJ_1, zI_o (by omega)]; exact hw b9 h1 t9 h2)
  · exact fun k9 h1 t9 h2 => (by rw [zJ_1, zI_o (by omega)]; exact ht k9 h1 t9 h2)
  · exact fun l9 h1 => ⟨(by rw [zJ_1, zI_o (by omega)]; exact (hlk l9 h1).1), (by rw [zJ_1, zI_o (by omega)]; exact (hlk l9 h1).2.1), (by rw [zJ_1, zI_o (by omega)]; exact (hlk l9 h1).2.2.1), (by rw [zJ_1, zI_o (by omega)]; exact (hlk l9 h1).2.2.2)⟩
  · exact ⟨(by rw [zJ_1, zI_o (by omega)]; exact hpr.1), (by rw [zJ_1, zI_o (by omega)]; exact hpr.2)⟩
set_option maxRecDepth 20000 in
theorem RX_fall {S : zS} {M : zM} (hR : RX S M) (hO : ok S) {b w : Nat} (h4 : b < 12) (hw9 : w < 4096) (hwb : ∀ i, i < 12 → w.testBit i = (flS S i || decide (b = i))) : RX (uS S 2 b 5 1) (zI M 1 3 (w : Int)) := by
  have h12 := hO.n
  obtain ⟨⟨n0, n1, n2, n3⟩, hk, hb, hb2, ⟨m, hm1, hm2, hm3⟩, hl, hp, ⟨m2, hn1, hn2, hn3⟩, hw, ht, hlk, hpr⟩ := hR
  refine ⟨?_, ?_, ?_, ?_, ?_, ?_, ?_, ?_, ?_, ?_, ?_, ?_⟩
  · exact ⟨(by rw [zI_o (by omega)]; exact n0), (by rw [zI_o (by omega)]; exact n1), (by rw [zI_o (by omega)]; exact n2), (by rw [zI_o (by omega)]; exact n3)⟩
  · exact fun k9 h1 w9 h2 => (by rw [zI_o (by omega)]; exact hk k9 h1 w9 h2)
  · exact fun b9 h1 => ⟨⟨(by rw [zI_o (by omega), uS_o (by omega)]; exact (hb b9 h1).1.1), (by rw [zI_o (by omega), uS_o (by omega)]; exact (hb b9 h1).1.2.1), (by rw [zI_o (by omega), uS_o (by omega)]; exact (hb b9 h1).1.2.2.1), (by rw [zI_o (by omega), uS_o (by omega)]; exact (hb b9 h1).1.2.2.2)⟩, fun s9 hs => (by rw [zI_o (by omega), zI_o (by omega), zI_o (by omega)]; exact (hb b9 h1).2 s9 hs)⟩
  · exact fun b9 h1 => ⟨(by rw [zI_o (by omega), uS_o (by omega)]; exact (hb2 b9 h1).1), fun x9 hx => ((hb2 b9 h1).2 x9 hx).trans (fL_eq (S := S) (T := uS S 2 b 5 1) (S.1 1) (fun _ _ _ => rfl)).symm⟩
  · exact ⟨w, zI_same _ _ _ _, hw9, fun i hi => (hwb i hi).trans (by unfold flS; rw [uS_at]; by_cases e : i = b; (· rw [if_pos ⟨rfl, e, rfl⟩, decide_eq_true e.symm, Bool.or_true]; rfl); rw [if_neg (fun z => e z.2.1), decide_eq_false (show ¬ b = i from fun z => e z.symm), Bool.or_false])⟩
  · exact fun l9 h1 => ⟨(by rw [zI_o (by omega)]; exact (hl l9 h1).1), (by rw [zI_o (by omega)]; exact (hl l9 h1).2.1), (by rw [zI_o (by omega)]; exact (hl l9 h1).2.2.1), (by rw [zI_o (by omega)]; exact (hl l9 h1).2.2.2)⟩
  · exact fun p9 h1 => ⟨(by rw [zI_o (by omega)]; exact (hp p9 h1).1), (by rw [zI_o (by omega)]; exact (hp p9 h1).2.1), (by rw [zI_o (by omega)]; exact (hp p9 h1).2.2)⟩
  · exact ⟨m2, (by rw [zI_o (by omega)]; exact hn1), hn2, hn3⟩
  · exact fun b9 h1 t9 h2 => (by rw [zI_o (by omega)]; exact hw b9 h1 t9 h2)
  · exact fun k9 h1 t9 h2 => (by rw [zI_o (by omega)]; exact ht k9 h1 t9 h2)
  · exact fun l9 h1 => ⟨(by rw [zI_o (by omega)]; exact (hlk l9 h1).1), (by rw [zI_o (by omega)]; exact (hlk l9 h1).2.1), (by rw [zI_o (by omega)]; exact (hlk l9 h1).2.2.1), (by rw [zI_o (by omega)]; exact (hlk l9 h1).2.2.2)⟩
  · exact ⟨(by rw [zI_o (by omega)]; exact hpr.1), (by rw [zI_o (by omega)]; exact hpr.2)⟩
set_option maxRecDepth 20000 in
theorem RX_weight {S : zS} {M : zM} (hR : RX S M) (hO : ok S) {b t : Nat} {v : Int} (h4 : b < 12) (h3 : t < 11) : RX (uS S 8 b t v) (zI M (22 + b) t v) := by
  have h12 := hO.n
  obtain ⟨⟨n0, n1, n2, n3⟩, hk, hb, hb2, ⟨m, hm1, hm2, hm3⟩, hl, hp, ⟨m2, hn1, hn2, hn3⟩, hw, ht, hlk, hpr⟩ := hR
  refine ⟨?_, ?_, ?_, ?_, ?_, ?_, ?_, ?_, ?_, ?_, ?_, ?_⟩
  · exact ⟨(by rw [zI_o (by omega)]; exact n0), (by rw [zI_o (by omega)]; exact n1), (by rw [zI_o (by omega)]; exact n2), (by rw [zI_o (by omega)]; exact n3)⟩
  · exact fun k9 h1 w9 h2 => (by rw [zI_o (by omega)]; exact hk k9 h1 w9 h2)
  · exact fun b9 h1 => ⟨⟨(by rw [zI_o (by omega)]; exact (hb b9 h1).1.1), (by rw [zI_o (by omega)]; exact (hb b9 h1).1.2.1), (by rw [zI_o (by omega)]; exact (hb b9 h1).1.2.2.1), (by rw [zI_o (by omega)]; exact (hb b9 h1).1.2.2.2)⟩, fun s9 hs => ⟨(by rw [zI_o (by omega)]; exact ((hb b9 h1).2 s9 hs).1), (by rw [zI_o (by omega)]; exact ((hb b9 h1).2 s9 hs).2.1), fun e => (by rw [zI_o (by omega)]; exact ((hb b9 h1).2 s9 hs).2.2 e)⟩⟩
  · exact fun b9 h1 => ⟨(by rw [zI_o (by omega)]; exact (hb2 b9 h1).1), fun x9 hx => ((hb2 b9 h1).2 x9 hx).trans (fL_eq (S := S) (T := uS S 8 b t v) (S.1 1) (fun _ _ _ => rfl)).symm⟩
  · exact ⟨m, (by rw [zI_o (by omega)]; exact hm1), hm2, hm3⟩
  · exact fun l9 h1 => ⟨(by rw [zI_o (by omega)]; exact (hl l9 h1).1), (by rw [zI_o (by omega)]; exact (hl l9 h1).2.1), (by rw [zI_o (by omega)]; exact (hl l9 h1).2.2.1), (by rw [zI_o (by omega)]; exact (hl l9 h1).2.2.2)⟩
  · exact fun p9 h1 => ⟨(by rw [zI_o (by omega)]; exact (hp p9 h1).1), (by rw [zI_o (by omega)]; exact (hp p9 h1).2.1), (by rw [zI_o (by omega)]; exact (hp p9 h1).2.2)⟩
  · exact ⟨m2, (by rw [zI_o (by omega)]; exact hn1), hn2, hn3⟩
  · exact fun b9 h1 t9 h2 => (by rw [zI_at, uS_at]; exact ite2 (by omega) (hw b9 h1 t9 h2))
  · exact fun k9 h1 t9 h2 => (by rw [zI_o (by omega)]; exact ht k9 h1 t9 h2)
  · exact fun l9 h1 => ⟨(by rw [zI_o (by omega)]; exact (hlk l9 h1).1), (by rw [zI_o (by omega)]; exact (hlk l9 h1).2.1), (by rw [zI_o (by omega)]; exact (hlk l9 h1).2.2.1), (by rw [zI_o (by omega)]; exact (hlk l9 h1).2.2.2)⟩
  · exact ⟨(by rw [zI_o (by omega)]; exact hpr.1), (by rw [zI_o (by omega)]; exact hpr.2)⟩
set_option maxRecDepth 20000 in
theorem RX_tool {S : zS} {M : zM} (hR : RX S M) (hO : ok S) {k t : Nat} {v : Int} (h4 : k < 4) (h3 : t < 11) : RX (uS S 9 k t v) (zI M (35 + k) t v) := by
  have h12 := hO.n
  obtain ⟨⟨n0, n1, n2, n3⟩, hk, hb, hb2, ⟨m, hm1, hm2, hm3⟩, hl, hp, ⟨m2, hn1, hn2, hn3⟩, hw, ht, hlk, hpr⟩ := hR
  refine ⟨?_, ?_, ?_, ?_, ?_, ?_, ?_, ?_, ?_, ?_, ?_, ?_⟩
  · exact ⟨(by rw [zI_o (by omega)]; exact n0), (by rw [zI_o (by omega)]; exact n1), (by rw [zI_o (by omega)]; exact n2), (by rw [zI_o (by omega)]; exact n3)⟩
  · exact fun k9 h1 w9 h2 => (by rw [zI_o (by omega)]; exact hk k9 h1 w9 h2)
  · exact fun b9 h1 => ⟨⟨(by rw [zI_o (by omega)]; exact (hb b9 h1).1.1), (by rw [zI_o (by omega)]; exact (hb b9 h1).1.2.1), (by rw [zI_o (by omega)]; exact (hb b9 h1).1.2.2.1), (by rw [zI_o (by omega)]; exact (hb b9 h1).1.2.2.2)⟩, fun s9 hs => ⟨(by rw [zI_o (by omega)]; exact ((hb b9 h1).2 s9 hs).1), (by rw [zI_o (by omega)]; exact ((hb b9 h1).2 s9 hs).2.1), fun e => (by rw [zI_o (by omega)]; exact ((hb b9 h1).2 s9 hs).2.2 e)⟩⟩
  · exact fun b9 h1 => ⟨(by rw [zI_o (by omega)]; exact (hb2 b9 h1).1), fun x9 hx => ((hb2 b9 h1).2 x9 hx).trans (fL_eq (S := S) (T := uS S 9 k t v) (S.1 1) (fun _ _ _ => rfl)).symm⟩
  · exact ⟨m, (by rw [zI_o (by omega)]; exact hm1), hm2, hm3⟩
  · exact fun l9 h1 => ⟨(by rw [zI_o (by omega)]; exact (hl l9 h1).1), (by rw [zI_o (by omega)]; exact (hl l9 h1).2.1), (by rw [zI_o (by omega)]; exact (hl l9 h1).2.2.1), (by rw [zI_o (by omega)]; exact (hl l9 h1).2.2.2)⟩
  · exact fun p9 h1 => ⟨(by rw [zI_o (by omega)]; exact (hp p9 h1).1), (by rw [zI_o (by omega)]; exact (hp p9 h1).2.1), (by rw [zI_o (by omega)]; exact (hp p9 h1).2.2)⟩
  · exact ⟨m2, (by rw [zI_o (by omega)]; exact hn1), hn2, hn3⟩
  · exact fun b9 h1 t9 h2 => (by rw [zI_o (by omega)]; exact hw b9 h1 t9 h2)
  · exact fun k9 h1 t9 h2 => (by rw [zI_at, uS_at]; exact ite2 (by omega) (ht k9 h1 t9 h2))
  · exact fun l9 h1 => ⟨(by rw [zI_o (by omega)]; exact (hlk l9 h1).1), (by rw [zI_o (by omega)]; exact (hlk l9 h1).2.1), (by rw [zI_o (by omega)]; exact (hlk l9 h1).2.2.1), (by rw [zI_o (by omega)]; exact (hlk l9 h1).2.2.2)⟩
  · exact ⟨(by rw [zI_o (by omega)]; exact hpr.1), (by rw [zI_o (by omega)]; exact hpr.2)⟩
set_option maxRecDepth 20000 in
theorem RX_look {S : zS} {M : zM} (hR : RX S M) (hO : ok S) {b k oc y : Int} (h11 : S.1 2 < 60) : RX (aLook S b k oc y) (zI (zI (zI (zI (zI M 39 (S.1 2) b) 40 (S.1 2) k) 41 (S.1 2) oc) 42 (S.1 2) y) 2 6 ((S.1 2 : Int) + 1)) := by
  have h12 := hO.n
  obtain ⟨⟨n0, n1, n2, n3⟩, hk, hb, hb2, ⟨m, hm1, hm2, hm3⟩, hl, hp, ⟨m2, hn1, hn2, hn3⟩, hw, ht, hlk, hpr⟩ := hR
  refine ⟨?_, ?_, ?_, ?_, ?_, ?_, ?_, ?_, ?_, ?_, ?_, ?_⟩
  · exact ⟨(by rw [zI_o (by omega), zI_o (by omega), zI_o (by omega), zI_o (by omega), zI_o (by omega)]; exact n0), (by rw [zI_o (by omega), zI_o (by omega), zI_o (by omega), zI_o (by omega), zI_o (by omega)]; exact n1), (zI_same _ _ _ _), (by rw [zI_o (by omega), zI_o (by omega), zI_o (by omega), zI_o (by omega), zI_o (by omega)]; exact n3)⟩
  · exact fun k9 h1 w9 h2 => (by rw [zI_o (by omega), zI_o (by omega), zI_o (by omega), zI_o (by omega), zI_o (by omega)]; exact hk k9 h1 w9 h2)
  · exact fun b9 h1 => ⟨⟨(by rw [zI_o (by omega), zI_o (by omega), zI_o (by omega), zI_o (by omega), zI_o (by omega)]; exact (hb b9 h1).1.1), (by rw [zI_o (by omega), zI_o (by omega), zI_o (by omega), zI_o (by omega), zI_o (by omega)]; exact (hb b9 h1).1.2.1), (by rw [zI_o (by omega), zI_o (by omega), zI_o (by omega), zI_o (by omega), zI_o (by omega)]; exact (hb b9 h1).1.2.2.1), (by rw [zI_o (by omega), zI_o (by omega), zI_o (by omega), zI_o (by omega), zI_o (by omega)]; exact (hb b9 h1).1.2.2.2)⟩, fun s9 hs => ⟨(by rw [zI_o (by omega), zI_o (by omega), zI_o (by omega), zI_o (by omega), zI_o (by omega)]; exact ((hb b9 h1).2 s9 hs).1), (by rw [zI_o (by omega), zI_o (by omega), zI_o (by omega), zI_o (by omega), zI_o (by omega)]; exact ((hb b9 h1).2 s9 hs).2.1), fun e => (by rw [zI_o (by omega), zI_o (by omega), zI_o (by omega), zI_o (by omega), zI_o (by omega)]; exact ((hb b9 h1).2 s9 hs).2.2 e)⟩⟩
  · exact fun b9 h1 => ⟨(by rw [zI_o (by omega), zI_o (by omega), zI_o (by omega), zI_o (by omega), zI_o (by omega)]; exact (hb2 b9 h1).1), fun x9 hx => ((hb2 b9 h1).2 x9 hx).trans (fL_eq (S := S) (T := aLook S b k oc y) (S.1 1) (fun _ _ _ => rfl)).symm⟩
  · exact ⟨m, (by rw [zI_o (by omega), zI_o (by omega), zI_o (by omega), zI_o (by omega), zI_o (by omega)]; exact hm1), hm2, hm3⟩
  · exact fun l9 h1 => ⟨(by rw [zI_o (by omega), zI_o (by omega), zI_o (by omega), zI_o (by omega), zI_o (by omega)]; exact (hl l9 h1).1), (by rw [zI_o (by omega), zI_o (by omega), zI_o (by omega), zI_o (by omega), zI_o (by omega)]; exact (hl l9 h1).2.1), (by rw [zI_o (by omega), zI_o (by omega), zI_o (by omega), zI_o (by omega), zI_o (by omega)]; exact (hl l9 h1).2.2.1), (by rw [zI_o (by omega), zI_o (by omega), zI_o (by omega), zI_o (by omega), zI_o (by omega)]; exact (hl l9 h1).2.2.2)⟩
  · exact fun p9 h1 => ⟨(by rw [zI_o (by omega), zI_o (by omega), zI_o (by omega), zI_o (by omega), zI_o (by omega)]; exact (hp p9 h1).1), (by rw [zI_o (by omega), zI_o (by omega), zI_o (by omega), zI_o (by omega), zI_o (by omega)]; exact (hp p9 h1).2.1), (by rw [zI_o (by omega), zI_o (by omega), zI_o (by omega), zI_o (by omega), zI_o (by omega)]; exact (hp p9 h1).2.2)⟩
  · exact ⟨m2, (by rw [zI_o (by omega), zI_o (by omega), zI_o (by omega), zI_o (by omega), zI_o (by omega)]; exact hn1), hn2, hn3⟩
  · exact fun b9 h1 t9 h2 => (by rw [zI_o (by omega), zI_o (by omega), zI_o (by omega), zI_o (by omega), zI_o (by omega)]; exact hw b9 h1 t9 h2)
  · exact fun k9 h1 t9 h2 => (by rw [zI_o (by omega), zI_o (by omega), zI_o (by omega), zI_o (by omega), zI_o (by omega)]; exact ht k9 h1 t9 h2)
  · exact fun l9 h1 => by
      have h1 : l9 < S.1 2 + 1 := h1
      by_cases e : l9 = S.1 2
      · subst e
        simp [aLook, uN, uS, zI]
      · have q := hlk l9 (by omega)
        simp [aLook, uN, uS, zI, e]
        exact q
  · exact ⟨(by rw [zI_o (by omega), zI_o (by omega), zI_o (by omega), zI_o (by omega), zI_o (by omega)]; exact hpr.1), (by rw [zI_o (by omega), zI_o (by omega), zI_o (by omega), zI_o (by omega), zI_o (by omega)]; exact hpr.2)⟩
set_option maxRecDepth 20000 in
theorem RX_prop {S : zS} {M : zM} (hR : RX S M) (hO : ok S) {b p v : Int} (h11 : S.1 3 < 8) : RX (aProp S b p v) (zI (zI (zI (zI M 18 (S.1 3) b) 19 (S.1 3) p) 20 (S.1 3) v) 1 12 ((S.1 3 : Int) + 1)) := by
  have h12 := hO.n
  obtain ⟨⟨n0, n1, n2, n3⟩, hk, hb, hb2, ⟨m, hm1, hm2, hm3⟩, hl, hp, ⟨m2, hn1, hn2, hn3⟩, hw, ht, hlk, hpr⟩ := hR
  refine ⟨?_, ?_, ?_, ?_, ?_, ?_, ?_, ?_, ?_, ?_, ?_, ?_⟩
  · exact ⟨(by rw [zI_o (by omega), zI_o (by omega), zI_o (by omega), zI_o (by omega)]; exact n0), (by rw [zI_o (by omega), zI_o (by omega), zI_o (by omega), zI_o (by omega)]; exact n1), (by rw [zI_o (by omega), zI_o (by omega), zI_o (by omega), zI_o (by omega)]; exact n2), (zI_same _ _ _ _)⟩
  · exact fun k9 h1 w9 h2 => (by rw [zI_o (by omega), zI_o (by omega), zI_o (by omega), zI_o (by omega)]; exact hk k9 h1 w9 h2)
  · exact fun b9 h1 => ⟨⟨(by rw [zI_o (by omega), zI_o (by omega), zI_o (by omega), zI_o (by omega)]; exact (hb b9 h1).1.1), (by rw [zI_o (by omega), zI_o (by omega), zI_o (by omega), zI_o (by omega)]; exact (hb b9 h1).1.2.1), (by rw [zI_o (by omega), zI_o (by omega), zI_o (by omega), zI_o (by omega)]; exact (hb b9 h1).1.2.2.1), (by rw [zI_o (by omega), zI_o (by omega), zI_o (by omega), zI_o (by omega)]; exact (hb b9 h1).1.2.2.2)⟩, fun s9 hs => ⟨(by rw [zI_o (by omega), zI_o (by omega), zI_o (by omega), zI_o (by omega)]; exact ((hb b9 h1).2 s9 hs).1), (by rw [zI_o (by omega), zI_o (by omega), zI_o (by omega), zI_o (by omega)]; exact ((hb b9 h1).2 s9 hs).2.1), fun e => (by rw [zI_o (by omega), zI_o (by omega), zI_o (by omega), zI_o (by omega)]; exact ((hb b9 h1).2 s9 hs).2.2 e)⟩⟩
  · exact fun b9 h1 => ⟨(by rw [zI_o (by omega), zI_o (by omega), zI_o (by omega), zI_o (by omega)]; exact (hb2 b9 h1).1), fun x9 hx => ((hb2 b9 h1).2 x9 hx).trans (fL_eq (S := S) (T := aProp S b p v) (S.1 1) (fun _ _ _ => rfl)).symm⟩
  · exact ⟨m, (by rw [zI_o (by omega), zI_o (by omega), zI_o (by omega), zI_o (by omega)]; exact hm1), hm2, hm3⟩
  · exact fun l9 h1 => ⟨(by rw [zI_o (by omega), zI_o (by omega), zI_o (by omega), zI_o (by omega)]; exact (hl l9 h1).1), (by rw [zI_o (by omega), zI_o (by omega), zI_o (by omega), zI_o (by omega)]; exact (hl l9 h1).2.1), (by rw [zI_o (by omega), zI_o (by omega), zI_o (by omega), zI_o (by omega)]; exact (hl l9 h1).2.2.1), (by rw [zI_o (by omega), zI_o (by omega), zI_o (by omega), zI_o (by omega)]; exact (hl l9 h1).2.2.2)⟩
  · exact fun l9 h1 => by
      have h1 : l9 < S.1 3 + 1 := h1
      by_cases e : l9 = S.1 3
      · subst e
        simp [aProp, uN, uS, zI]
      · have q := hp l9 (by omega)
        simp [aProp, uN, uS, zI, e]
        exact q
  · exact ⟨m2, (by rw [zI_o (by omega), zI_o (by omega), zI_o (by omega), zI_o (by omega)]; exact hn1), hn2, fun i hi => (hn3 i hi).trans (by unfold psS; simp [aProp, uN, uS])⟩
  · exact fun b9 h1 t9 h2 => (by rw [zI_o (by omega), zI_o (by omega), zI_o (by omega), zI_o (by omega)]; exact hw b9 h1 t9 h2)
  · exact fun k9 h1 t9 h2 => (by rw [zI_o (by omega), zI_o (by omega), zI_o (by omega), zI_o (by omega)]; exact ht k9 h1 t9 h2)
  · exact fun l9 h1 => ⟨(by rw [zI_o (by omega), zI_o (by omega), zI_o (by omega), zI_o (by omega)]; exact (hlk l9 h1).1), (by rw [zI_o (by omega), zI_o (by omega), zI_o (by omega), zI_o (by omega)]; exact (hlk l9 h1).2.1), (by rw [zI_o (by omega), zI_o (by omega), zI_o (by omega), zI_o (by omega)]; exact (hlk l9 h1).2.2.1), (by rw [zI_o (by omega), zI_o (by omega), zI_o (by omega), zI_o (by omega)]; exact (hlk l9 h1).2.2.2)⟩
  · exact ⟨(by rw [zI_o (by omega), zI_o (by omega), zI_o (by omega), zI_o (by omega)]; exact hpr.1), (by rw [zI_o (by omega), zI_o (by omega), zI_o (by omega), zI_o (by omega)]; exact hpr.2)⟩
set_option maxRecDepth 20000 in
theorem RX_set {S : zS} {M : zM} (hR : RX S M) (hO : ok S) {p w : Nat} {z : Int} (h4 : p < 8) (hw9 : w < 256) (hwb : ∀ i, i < 8 → w.testBit (7 - i) = (if i = p then decide (z = 1) else psS S i)) : RX (uS S 7 p 3 z) (zI M 1 13 (w : Int)) := by
  have h12 := hO.n
  obtain ⟨⟨n0, n1, n2, n3⟩, hk, hb, hb2, ⟨m, hm1, hm2, hm3⟩, hl, hp, ⟨m2, hn1, hn2, hn3⟩, hw, ht, hlk, hpr⟩ := hR
  refine ⟨?_, ?_, ?_, ?_, ?_, ?_, ?_, ?_, ?_, ?_, ?_, ?_⟩
  · exact ⟨(by rw [zI_o (by omega)]; exact n0), (by rw [zI_o (by omega)]; exact n1), (by rw [zI_o (by omega)]; exact n2), (by rw [zI_o (by omega)]; exact n3)⟩
  · exact fun k9 h1 w9 h2 => (by rw [zI_o (by omega)]; exact hk k9 h1 w9 h2)
  · exact fun b9 h1 => ⟨⟨(by rw [zI_o (by omega)]; exact (hb b9 h1).1.1), (by rw [zI_o (by omega)]; exact (hb b9 h1).1.2.1), (by rw [zI_o (by omega)]; exact (hb b9 h1).1.2.2.1), (by rw [zI_o (by omega)]; exact (hb b9 h1).1.2.2.2)⟩, fun s9 hs => ⟨(by rw [zI_o (by omega)]; exact ((hb b9 h1).2 s9 hs).1), (by rw [zI_o (by omega)]; exact ((hb b9 h1).2 s9 hs).2.1), fun e => (by rw [zI_o (by omega)]; exact ((hb b9 h1).2 s9 hs).2.2 e)⟩⟩
  · exact fun b9 h1 => ⟨(by rw [zI_o (by omega)]; exact (hb2 b9 h1).1), fun x9 hx => ((hb2 b9 h1).2 x9 hx).trans (fL_eq (S := S) (T := uS S 7 p 3 z) (S.1 1) (fun _ _ _ => rfl)).symm⟩
  · exact ⟨m, (by rw [zI_o (by omega)]; exact hm1), hm2, hm3⟩
  · exact fun l9 h1 => ⟨(by rw [zI_o (by omega)]; exact (hl l9 h1).1), (by rw [zI_o (by omega)]; exact (hl l9 h1).2.1), (by rw [zI_o (by omega)]; exact (hl l9 h1).2.2.1), (by rw [zI_o (by omega)]; exact (hl l9 h1).2.2.2)⟩
  · exact fun p9 h1 => ⟨(by rw [zI_o (by omega), uS_o (by omega)]; exact (hp p9 h1).1), (by rw [zI_o (by omega), uS_o (by omega)]; exact (hp p9 h1).2.1), (by rw [zI_o (by omega), uS_o (by omega)]; exact (hp p9 h1).2.2)⟩
  · exact ⟨w, zI_same _ _ _ _, hw9, fun i hi => (hwb i hi).trans (by unfold psS; rw [uS_at]; by_cases e : i = p; (· rw [if_pos e, if_pos ⟨rfl, e, rfl⟩]); rw [if_neg e, if_neg (fun z => e z.2.1)])⟩
  · exact fun b9 h1 t9 h2 => (by rw [zI_o (by omega)]; exact hw b9 h1 t9 h2)
  · exact fun k9 h1 t9 h2 => (by rw [zI_o (by omega)]; exact ht k9 h1 t9 h2)
  · exact fun l9 h1 => ⟨(by rw [zI_o (by omega)]; exact (hlk l9 h1).1), (by rw [zI_o (by omega)]; exact (hlk l9 h1).2.1), (by rw [zI_o (by omega)]; exact (hlk l9 h1).2.2.1), (by rw [zI_o (by omega)]; exact (hlk l9 h1).2.2.2)⟩
  · exact ⟨(by rw [zI_o (by omega)]; exact hpr.1), (by rw [zI_o (by omega)]; exact hpr.2)⟩
set_option maxRecDepth 20000 in
theorem RX_price {S : zS} {M : zM} (hR : RX S M) (hO : ok S) {w : Nat} {v : Int} (h4 : w < 2) : RX (uS S 11 w 0 v) (zI M 5 w v) := by
  have h12 := hO.n
  obtain ⟨⟨n0, n1, n2, n3⟩, hk, hb, hb2, ⟨m, hm1, hm2, hm3⟩, hl, hp, ⟨m2, hn1, hn2, hn3⟩, hw, ht, hlk, hpr⟩ := hR
  refine ⟨?_, ?_, ?_, ?_, ?_, ?_, ?_, ?_, ?_, ?_, ?_, ?_⟩
  · exact ⟨(by rw [zI_o (by omega)]; exact n0), (by rw [zI_o (by omega)]; exact n1), (by rw [zI_o (by omega)]; exact n2), (by rw [zI_o (by omega)]; exact n3)⟩
  · exact fun k9 h1 w9 h2 => (by rw [zI_o (by omega)]; exact hk k9 h1 w9 h2)
  · exact fun b9 h1 => ⟨⟨(by rw [zI_o (by omega)]; exact (hb b9 h1).1.1), (by rw [zI_o (by omega)]; exact (hb b9 h1).1.2.1), (by rw [zI_o (by omega)]; exact (hb b9 h1).1.2.2.1), (by rw [zI_o (by omega)]; exact (hb b9 h1).1.2.2.2)⟩, fun s9 hs => ⟨(by rw [zI_o (by omega)]; exact ((hb b9 h1).2 s9 hs).1), (by rw [zI_o (by omega)]; exact ((hb b9 h1).2 s9 hs).2.1), fun e => (by rw [zI_o (by omega)]; exact ((hb b9 h1).2 s9 hs).2.2 e)⟩⟩
  · exact fun b9 h1 => ⟨(by rw [zI_o (by omega)]; exact (hb2 b9 h1).1), fun x9 hx => ((hb2 b9 h1).2 x9 hx).trans (fL_eq (S := S) (T := uS S 11 w 0 v) (S.1 1) (fun _ _ _ => rfl)).symm⟩
  · exact ⟨m, (by rw [zI_o (by omega)]; exact hm1), hm2, hm3⟩
  · exact fun l9 h1 => ⟨(by rw [zI_o (by omega)]; exact (hl l9 h1).1), (by rw [zI_o (by omega)]; exact (hl l9 h1).2.1), (by rw [zI_o (by omega)]; exact (hl l9 h1).2.2.1), (by rw [zI_o (by omega)]; exact (hl l9 h1).2.2.2)⟩
  · exact fun p9 h1 => ⟨(by rw [zI_o (by omega)]; exact (hp p9 h1).1), (by rw [zI_o (by omega)]; exact (hp p9 h1).2.1), (by rw [zI_o (by omega)]; exact (hp p9 h1).2.2)⟩
  · exact ⟨m2, (by rw [zI_o (by omega)]; exact hn1), hn2, hn3⟩
  · exact fun b9 h1 t9 h2 => (by rw [zI_o (by omega)]; exact hw b9 h1 t9 h2)
  · exact fun k9 h1 t9 h2 => (by rw [zI_o (by omega)]; exact ht k9 h1 t9 h2)
  · exact fun l9 h1 => ⟨(by rw [zI_o (by omega)]; exact (hlk l9 h1).1), (by rw [zI_o (by omega)]; exact (hlk l9 h1).2.1), (by rw [zI_o (by omega)]; exact (hlk l9 h1).2.2.1), (by rw [zI_o (by omega)]; exact (hlk l9 h1).2.2.2)⟩
  · exact ⟨(by rw [zI_at, uS_at]; exact ite2 (by omega) (hpr.1)), (by rw [zI_at, uS_at]; exact ite2 (by omega) (hpr.2))⟩
