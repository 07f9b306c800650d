theorem og_kind {S : zS} (hO : ok S) (k w v : Int) : ok (gKind S k w v) := by
  unfold gKind
  split
  · rename_i q
    exact ok_kind hO (by omega) (by omega) (by omega)
  · exact hO
theorem og_beam {S : zS} (hO : ok S) (k l w h y : Int) : ok (gBeam S k l w h y) := by
  unfold gBeam
  split
  · rename_i q
    exact ok_beam hO q.2.2 (by omega) (by omega) (by omega) (by omega)
  · exact hO
theorem og_seat {S : zS} (hO : ok S) (b s p n w : Int) : ok (gSeat S b s p n w) := by
  unfold gSeat
  split
  · rename_i q
    obtain ⟨q1, q2, q3, q4⟩ := q
    obtain ⟨b, rfl⟩ := Int.eq_ofNat_of_zero_le q1.1
    obtain ⟨s, rfl⟩ := Int.eq_ofNat_of_zero_le q2.1.1
    unfold aSeat
    unfold sAp at q4
    rw [Int.toNat_natCast] at q2 q4 ⊢
    rw [Int.toNat_natCast]
    have q5 : S.2 2 b 1 ≤ 3 * ((if s = 0 then S.2 3 b 1 else p) - (if s = 0 then p else S.2 3 b 0)) := by
      by_cases e : s = 0
      · subst e; simpa using q4
      · rw [if_neg e, if_neg e]; rw [if_neg (by omega), if_neg (by omega)] at q4; exact q4
    have hk := ok_seat hO (b := b) (s := s) (p := p) (n := n) (w := w) (by omega) (by omega) q2.2 (by omega) q5
    exact hk
  · exact hO
theorem og_wet {S : zS} (hO : ok S) (b z : Int) (hz : z = 0 ∨ z = 1) : ok (gWet S b z) := by
  unfold gWet
  split
  · rename_i q
    exact ok_wet hO (by omega) hz
  · exact hO
theorem og_load {S : zS} (hO : ok S) (b p w : Int) : ok (gLoad S b p w) := by
  unfold gLoad
  split
  · rename_i q
    exact ok_load hO q.2.2 q.1 q.2.1.1 q.2.1.2
  · exact hO
theorem og_off {S : zS} (hO : ok S) (l : Int) : ok (gOff S l) := by
  unfold gOff
  split
  · rename_i q
    exact ok_off hO
  · exact hO
theorem og_fall {S : zS} (hO : ok S) (b : Int) : ok (gFall S b) := by
  unfold gFall
  split
  · rename_i q
    exact ok_fall hO (by omega)
  · exact hO
theorem og_weight {S : zS} (hO : ok S) (b t v : Int) : ok (gWeight S b t v) := by
  unfold gWeight
  split
  · rename_i q
    obtain ⟨q1, q2, q3⟩ := q
    obtain ⟨b, rfl⟩ := Int.eq_ofNat_of_zero_le q1.1
    obtain ⟨t, rfl⟩ := Int.eq_ofNat_of_zero_le q2.1.1
    rw [Int.toNat_natCast] at q3 ⊢
    rw [Int.toNat_natCast]
    have hk := ok_weight hO (b := b) (t := t) (v := v) (by omega) (by omega) q2.2 (Classical.byContradiction (fun z => q3 (Or.inr (Bool.eq_false_iff.mpr z))))
    exact hk
  · exact hO
theorem og_tool {S : zS} (hO : ok S) (k t v : Int) : ok (gTool S k t v) := by
  unfold gTool
  split
  · rename_i q
    exact ok_tool hO q.2.1.2
  · exact hO
theorem og_look {S : zS} (hO : ok S) (b k oc y : Int) : ok (gLook S b k oc y) := by
  unfold gLook
  split
  · rename_i q
    exact ok_look hO q.2.2.2.1 q.2.2.2.2 q.1.1 (by omega) (by omega) q.2.1.2
  · exact hO
theorem og_prop {S : zS} (hO : ok S) (b p w : Int) : ok (gProp S b p w) := by
  unfold gProp
  split
  · rename_i q
    exact ok_prop hO q.2.2 q.1 q.2.1.1 q.2.1.2
  · exact hO
theorem og_set {S : zS} (hO : ok S) (p z : Int) (hz : z = 0 ∨ z = 1) : ok (gSet S p z) := by
  unfold gSet
  split
  · rename_i q
    exact ok_set hO (by omega) hz
  · exact hO
theorem og_price {S : zS} (hO : ok S) (w v : Int) : ok (gPrice S w v) := by
  unfold gPrice
  split
  · rename_i q
    exact ok_price hO q.2
  · exact hO
/-- the first state -/
def S0 : zS := (fun _ => 0, fun f i j => if f = 1 then (if j = 0 then 100 else if j = 2 then 1 else 0) else if f = 8 then 1 else if f = 11 then (if i = 0 then 100 else 1000) else 0)
theorem ok_S0 : ok S0 := by
  refine ⟨by decide, fun k _ => show ((1 : Int) ≤ 100 ∧ (100 : Int) ≤ 999) ∧ ((0 : Int) ≤ 0 ∧ (0 : Int) ≤ 10) ∧ (0 : Int) ≤ 1 ∧ (1 : Int) ≤ 10 by decide, fun b h => absurd h (Nat.not_lt_zero b), fun b _ => ⟨Or.inl rfl, Or.inl rfl⟩, fun b _ _ => ⟨rfl, rfl, fun t _ => rfl⟩, fun l h => absurd h (Nat.not_lt_zero l), fun l h => absurd h (Nat.not_lt_zero l), fun p _ => ⟨Or.inl rfl, fun _ => rfl⟩, fun b _ => ⟨fun t _ => show (0 : Int) ≤ 1 ∧ (1 : Int) ≤ 99 by decide, 0, by decide, show (1 : Int) ≠ 0 by decide⟩, fun k _ t _ => show (0 : Int) ≤ 0 ∧ (0 : Int) ≤ 9 by decide, fun l h => absurd h (Nat.not_lt_zero l), fun b _ => show 0 ≤ 8 by decide, by decide⟩
/-- what the class holds at the start -/
def MX0 : zM := (fun k i => if 9 ≤ k ∧ k < 13 then (if i = 0 then 100 else if i = 2 then 1 else 0) else if 22 ≤ k ∧ k < 34 then (if i < 11 then 1 else 0) else if k = 5 then (if i = 0 then 100 else if i = 1 then 1000 else 0) else 0, fun k i => if (k = 3 ∨ k = 4) ∧ i = 1 then 1 else 0)
theorem RX_S0 : RX S0 MX0 := by
  refine ⟨⟨rfl, rfl, rfl, rfl⟩, fun k h1 w _ => ?_, fun b h => absurd h (Nat.not_lt_zero b), fun b h => ⟨?_, fun x _ => ?_⟩, ⟨0, rfl, by decide, fun i _ => by rw [Nat.zero_testBit]; rfl⟩, fun l h => absurd h (Nat.not_lt_zero l), fun l h => absurd h (Nat.not_lt_zero l), ⟨0, rfl, by decide, fun i _ => by rw [Nat.zero_testBit]; rfl⟩, fun b h t ht => ?_, fun k h t _ => ?_, fun l h => absurd h (Nat.not_lt_zero l), ⟨rfl, rfl⟩⟩
  · show (if 9 ≤ 9 + k ∧ 9 + k < 13 then _ else _) = _
    rw [if_pos (by omega)]; rfl
  · show (if 9 ≤ 45 + 7 * b ∧ 45 + 7 * b < 13 then _ else _) = _
    rw [if_neg (by omega), if_neg (by omega), if_neg (by omega)]; rfl
  · show (if (45 + 7 * b + 4 = 3 ∨ 45 + 7 * b + 4 = 4) ∧ x = 1 then _ else _) = _
    rw [if_neg (by omega)]; rfl
  · show (if 9 ≤ 22 + b ∧ 22 + b < 13 then _ else _) = _
    rw [if_neg (by omega), if_pos (by omega), if_pos ht]; rfl
  · show (if 9 ≤ 35 + k ∧ 35 + k < 13 then _ else _) = _
    rw [if_neg (by omega), if_neg (by omega), if_neg (by omega)]; rfl
/-- what the reference holds at the start -/
def MM0 : zM := (fun k i => if k = 1 then (if i < 4 then 100 else 0) else if k = 2 then (if i % 2 = 1 ∧ i < 8 then 1 else 0) else if k = 0 then (if i = 43 then 100 else if i = 44 then 1000 else 0) else 0, fun _ _ => 0)
theorem RM_S0 : RM S0 MM0 := by
  refine ⟨⟨rfl, rfl, rfl, rfl⟩, fun k h1 => ⟨?_, ?_, ?_⟩, fun b h => absurd h (Nat.not_lt_zero b), fun b h => ⟨rfl, rfl⟩, fun l h => absurd h (Nat.not_lt_zero l), fun l _ => rfl, fun l h => absurd h (Nat.not_lt_zero l), fun p _ => rfl, fun b h => absurd h (Nat.not_lt_zero b), fun k _ t _ => rfl, fun l h => absurd h (Nat.not_lt_zero l), ⟨rfl, rfl⟩⟩
  · show (if k < 4 then (100 : Int) else 0) = 100
    rw [if_pos h1]
  · show (if 2 * k % 2 = 1 ∧ 2 * k < 8 then (1 : Int) else 0) = 0
    rw [if_neg (by omega)]
  · show (if (2 * k + 1) % 2 = 1 ∧ 2 * k + 1 < 8 then (1 : Int) else 0) = 1
    rw [if_pos (by omega)]
