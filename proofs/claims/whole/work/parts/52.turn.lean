/-! the worlds that were made are the sides' first memories -/
def ceq (e e' : va_E) : Prop := e = e' ∨ ∃ (c : ClassId) (n : Nat) (f g : Nat → Option Nat), e = .inl (c, n, .inr (.inr (.inr (.inr f)))) ∧ e' = .inl (c, n, .inr (.inr (.inr (.inr g)))) ∧ ∀ i, i < n → f i = g i
theorem ceq.at {D : va_G} {e e' : va_E} {a : Nat} {H : Heap} (h : ceq e e') (ha : va_at D zcl (a, e) H) : va_at D zcl (a, e') H := by
  rcases h with rfl | ⟨c, n, f, g, rfl, rfl, h⟩
  · exact ha
  · have h1 : H[a]? = some (vp_cell c (n, .inr (.inr (.inr (.inr f))))) := ha
    show H[a]? = some (vp_cell c (n, .inr (.inr (.inr (.inr g)))))
    rw [h1, vp_cell_q, vp_cell_q, arrV_same (fun i hi => by rw [h i hi])]
theorem w_turn {D : va_G} {A : Nat → Prop} {X ws ws' : va_W} {H : Heap} (ix jx : Nat → Nat) (hj : ∀ k, k < ws'.length → jx (ix k) = k) (h : ∀ k, k < ws'.length → ∃ (a : Nat) (e e' : va_E), ws'[k]? = some (a, e') ∧ ws[ix k]? = some (a, e) ∧ ceq e e') (hP : va_P D zcl (X ++ ws) H) (hD : va_D A (X ++ ws)) : va_P D zcl (X ++ ws') H ∧ va_D A (X ++ ws') := by
  have hl : ∀ (k : Nat) (q : Nat × va_E), X[k]? = some q → (X ++ ws)[k]? = some q := fun k q hk => by
    rw [List.getElem?_append_left (List.getElem?_eq_some_iff.mp hk).1]
    exact hk
  have hr : ∀ (k : Nat) (q : Nat × va_E), ws'[k]? = some q → k < ws'.length ∧ ∃ e, (X ++ ws)[X.length + ix k]? = some (q.1, e) ∧ ceq e q.2 := fun k q hk => by
    have hk1 := (List.getElem?_eq_some_iff.mp hk).1
    obtain ⟨a, e, e', h1, h2, h3⟩ := h k hk1
    rw [h1] at hk
    cases hk
    refine ⟨hk1, e, ?_, h3⟩
    rw [List.getElem?_append_right (by omega), Nat.add_sub_cancel_left]
    exact h2
  refine ⟨va_P.app (fun k q hk => hP k q (hl k q hk)) (fun k q hk => ?_), va_D.app ⟨fun i j p q hi hj2 he => hD.1 i j p q (hl i p hi) (hl j q hj2) he, fun k q hk => hD.2 k q (hl k q hk)⟩ ⟨fun i j p q hi hj2 he => ?_, fun k q hk => ?_⟩ (fun i j p q hi hj2 he => ?_)⟩
  · obtain ⟨-, e, h1, h2⟩ := hr k q hk
    exact h2.at (hP _ _ h1)
  · obtain ⟨l1, e1, h1, -⟩ := hr i p hi
    obtain ⟨l2, e2, h2, -⟩ := hr j q hj2
    have h3 := hD.1 _ _ _ _ h1 h2 he
    rw [← hj i l1, ← hj j l2, show ix i = ix j by omega]
  · obtain ⟨-, e1, h1, -⟩ := hr k q hk
    have h3 := hD.2 _ _ h1
    exact h3
  · obtain ⟨l2, e2, h2, -⟩ := hr j q hj2
    have h3 := hD.1 _ _ _ _ (hl i p hi) h2 he
    have := (List.getElem?_eq_some_iff.mp hi).1
    omega
theorem zw_len (sd : zSd) (E : zE) (M : zM) : (zw sd E M).length = sd.1 := by simp [zw]
def adX (h0 q5 q16 q27 q38 q50 q69 q77 f7 f17 f26 f34 f42 f50 f58 f66 f74 k9 k20 k30 k38 k46 k54 k62 k70 : Nat) (fr7 kr9 kr20 : Nat → Nat) (fb : Nat → Nat → Nat) (k : Nat) : Nat := if k < 45 then ([h0, q5, q16, q27, q38, q50, q69, q77, f7, fr7 0, fr7 1, fr7 2, fr7 3, f17, f26, f34, f42, f50, f58, f66, f74, k9, kr9 0, kr9 1, kr9 2, kr9 3, kr9 4, kr9 5, kr9 6, kr9 7, kr9 8, kr9 9, kr9 10, kr9 11, k20, kr20 0, kr20 1, kr20 2, kr20 3, k30, k38, k46, k54, k62, k70] : List Nat).getD k 0 else fb ((k - 45) / 7) ((k - 45) % 7)
def ixX (k : Nat) : Nat := if k = 0 then 0 else if k = 1 then 1 else if k = 2 then 99 else if k < 8 then k + 121 else if k < 21 then k - 6 else if k < 45 then k + 79 else k - 30
def jxX (n : Nat) : Nat := if n < 2 then n else if n < 15 then n + 6 else if n < 99 then n + 30 else if n = 99 then 2 else if n < 124 then n - 79 else n - 121
theorem jxX_ix (k : Nat) (h : k < 129) : jxX (ixX k) = k := by
  unfold ixX
  split
  · subst k; rfl
  · split
    · subst k; rfl
    · split
      · subst k; rfl
      · unfold jxX
        split
        · rw [if_neg (by omega), if_neg (by omega), if_neg (by omega), if_neg (by omega), if_neg (by omega)]; omega
        · split
          · rw [if_neg (by omega), if_pos (by omega)]; omega
          · split
            · rw [if_neg (by omega), if_neg (by omega), if_neg (by omega), if_neg (by omega), if_pos (by omega)]; omega
            · rw [if_neg (by omega), if_neg (by omega), if_pos (by omega)]; omega
theorem row_k : (upd (upd (fun _ => 0) 0 (iI 100)) 2 (iI 1)) = fun i => iI (if i = 0 then 100 else if i = 2 then 1 else 0) := by
  funext i
  unfold upd
  by_cases h2 : i = 2
  · subst h2; rfl
  · rw [if_neg h2]
    by_cases h0 : i = 0
    · subst h0; rfl
    · rw [if_neg h0, if_neg h0, if_neg h2]; rfl
theorem row_p : (upd (upd (fun _ => 0) 0 (iI 100)) 1 (iI 1000)) = fun i => iI (if i = 0 then 100 else if i = 1 then 1000 else 0) := by
  funext i
  unfold upd
  by_cases h2 : i = 1
  · subst h2; rfl
  · rw [if_neg h2]
    by_cases h0 : i = 0
    · subst h0; rfl
    · rw [if_neg h0, if_neg h0, if_neg h2]; rfl
theorem row_w {k : Nat} (hk : k < 12) : (fun t => if k < 12 ∧ t < 11 then (1 : Int32) else 0) = fun i => iI (if i < 11 then 1 else 0) := by
  funext i
  by_cases h : i < 11
  · rw [if_pos ⟨hk, h⟩, if_pos h]; rfl
  · rw [if_neg (fun q => h q.2), if_neg h]; rfl
def uX (D : va_G) (cl : Nat → ClassId) (ws : va_W) (ad : Nat → Nat) (k : Nat) : Prop := ∃ e, ws[ixX k]? = some (ad k, e) ∧ ceq e (zce sX (D, cl, ad) MX0 k)
theorem uX_mk {D : va_G} {cl : Nat → ClassId} {ws : va_W} {ad : Nat → Nat} {k : Nat} {e : va_E} (h1 : ws[ixX k]? = some (ad k, e)) (h2 : ceq e (zce sX (D, cl, ad) MX0 k)) : uX D cl ws ad k := ⟨e, h1, h2⟩
set_option maxHeartbeats 16000000 in
set_option maxRecDepth 20000 in
theorem turnX {D : va_G} {cl : Nat → ClassId} {h0 : Nat} {ws : va_W} (hp : PO cl h0 ws) : ∃ ad : Nat → Nat, ad 0 = h0 ∧ ∀ k, k < 129 → uX D cl ws ad k := by
  obtain ⟨q5, q16, q27, q38, q50, q69, q77, WF, WK, ⟨f7, fr7, f17, f26, f34, f42, f50, f58, f66, f74, fb, rfl⟩, ⟨k9, kr9, k20, kr20, k30, k38, k46, k54, k62, k70, rfl⟩, rfl⟩ := hp
  refine ⟨adX h0 q5 q16 q27 q38 q50 q69 q77 f7 f17 f26 f34 f42 f50 f58 f66 f74 k9 k20 k30 k38 k46 k54 k62 k70 fr7 kr9 kr20 fb, rfl, ?_⟩
  refine lt_s ?_ (uX_mk rfl (Or.inl rfl))
  refine lt_s ?_ (uX_mk rfl (Or.inl rfl))
  refine lt_s ?_ (uX_mk rfl (Or.inl rfl))
  refine lt_s ?_ (uX_mk rfl (Or.inl rfl))
  refine lt_s ?_ (uX_mk rfl (Or.inl rfl))
  refine lt_s ?_ (uX_mk rfl (Or.inl rfl))
  refine lt_s ?_ (uX_mk rfl (Or.inl rfl))
  refine lt_s ?_ (uX_mk rfl (Or.inl rfl))
  refine lt_s ?_ (uX_mk rfl (Or.inl rfl))
  refine lt_s ?_ (uX_mk rfl (Or.inl rfl))
  refine lt_s ?_ (uX_mk rfl (Or.inl rfl))
  refine lt_s ?_ (uX_mk rfl (Or.inl rfl))
  refine lt_s ?_ (uX_mk rfl (Or.inl rfl))
  refine lt_s ?_ (uX_mk rfl (Or.inl rfl))
  refine lt_s ?_ (uX_mk rfl (Or.inl rfl))
  refine lt_s ?_ (uX_mk rfl (Or.inl rfl))
  refine lt_s ?_ (uX_mk rfl (Or.inl rfl))
  refine lt_s ?_ (uX_mk rfl (Or.inl rfl))
  refine lt_s ?_ (uX_mk rfl (Or.inl rfl))
  refine lt_s ?_ (uX_mk rfl (Or.inl rfl))
  refine lt_s ?_ (uX_mk rfl (Or.inl rfl))
  refine lt_s ?_ (uX_mk rfl (Or.inl rfl))
  refine lt_s ?_ (uX_mk rfl (Or.inl rfl))
  refine lt_s ?_ (uX_mk rfl (Or.inl rfl))
  refine lt_s ?_ (uX_mk rfl (Or.inl rfl))
  refine lt_s ?_ (uX_mk rfl (Or.inl rfl))
  refine lt_s ?_ (uX_mk rfl (Or.inl rfl))
  refine lt_s ?_ (uX_mk rfl (Or.inl rfl))
  refine lt_s ?_ (uX_mk rfl (Or.inl rfl))
  refine lt_s ?_ (uX_mk rfl (Or.inl rfl))
  refine lt_s ?_ (uX_mk rfl (Or.inl rfl))
  refine lt_s ?_ (uX_mk rfl (Or.inl rfl))
  refine lt_s ?_ (uX_mk rfl (Or.inl rfl))
  refine lt_s ?_ (uX_mk rfl (Or.inl rfl))
  refine lt_s ?_ (uX_mk rfl (Or.inl rfl))
  refine lt_s ?_ (uX_mk rfl (Or.inl rfl))
  refine lt_s ?_ (uX_mk rfl (Or.inl rfl))
  refine lt_s ?_ (uX_mk rfl (Or.inl rfl))
  refine lt_s ?_ (uX_mk rfl (Or.inl rfl))
  refine lt_s ?_ (uX_mk rfl (Or.inl rfl))
  refine lt_s ?_ (uX_mk rfl (Or.inl rfl))
  refine lt_s ?_ (uX_mk rfl (Or.inl rfl))
  refine lt_s ?_ (uX_mk rfl (Or.inl rfl))
  refine lt_s ?_ (uX_mk rfl (Or.inl rfl))
  refine lt_s ?_ (uX_mk rfl (Or.inl rfl))
  refine lt_s ?_ (uX_mk rfl (Or.inl rfl))
  refine lt_s ?_ (uX_mk rfl (Or.inl rfl))
  refine lt_s ?_ (uX_mk rfl (Or.inl rfl))
  refine lt_s ?_ (uX_mk rfl (Or.inl rfl))
  refine lt_s ?_ (uX_mk rfl (Or.inl rfl))
  refine lt_s ?_ (uX_mk rfl (Or.inl rfl))
  refine lt_s ?_ (uX_mk rfl (Or.inl rfl))
  refine lt_s ?_ (uX_mk rfl (Or.inl rfl))
  refine lt_s ?_ (uX_mk rfl (Or.inl rfl))
  refine lt_s ?_ (uX_mk rfl (Or.inl rfl))
  refine lt_s ?_ (uX_mk rfl (Or.inl rfl))
  refine lt_s ?_ (uX_mk rfl (Or.inl rfl))
  refine lt_s ?_ (uX_mk rfl (Or.inl rfl))
  refine lt_s ?_ (uX_mk rfl (Or.inl rfl))
  refine lt_s ?_ (uX_mk rfl (Or.inl rfl))
  refine lt_s ?_ (uX_mk rfl (Or.inl rfl))
  refine lt_s ?_ (uX_mk rfl (Or.inl rfl))
  refine lt_s ?_ (uX_mk rfl (Or.inl rfl))
  refine lt_s ?_ (uX_mk rfl (Or.inl rfl))
  refine lt_s ?_ (uX_mk rfl (Or.inl rfl))
  refine lt_s ?_ (uX_mk rfl (Or.inl rfl))
  refine lt_s ?_ (uX_mk rfl (Or.inl rfl))
  refine lt_s ?_ (uX_mk rfl (Or.inl rfl))
  refine lt_s ?_ (uX_mk rfl (Or.inl rfl))
  refine lt_s ?_ (uX_mk rfl (Or.inl rfl))
  refine lt_s ?_ (uX_mk rfl (Or.inl rfl))
  refine lt_s ?_ (uX_mk rfl (Or.inl rfl))
  refine lt_s ?_ (uX_mk rfl (Or.inl rfl))
  refine lt_s ?_ (uX_mk rfl (Or.inl rfl))
  refine lt_s ?_ (uX_mk rfl (Or.inl rfl))
  refine lt_s ?_ (uX_mk rfl (Or.inl rfl))
  refine lt_s ?_ (uX_mk rfl (Or.inl rfl))
  refine lt_s ?_ (uX_mk rfl (Or.inl rfl))
  refine lt_s ?_ (uX_mk rfl (Or.inl rfl))
  refine lt_s ?_ (uX_mk rfl (Or.inl rfl))
  refine lt_s ?_ (uX_mk rfl (Or.inl rfl))
  refine lt_s ?_ (uX_mk rfl (Or.inl rfl))
  refine lt_s ?_ (uX_mk rfl (Or.inl rfl))
  refine lt_s ?_ (uX_mk rfl (Or.inl rfl))
  refine lt_s ?_ (uX_mk rfl (Or.inl rfl))
  refine lt_s ?_ (uX_mk rfl (Or.inl rfl))
  refine lt_s ?_ (uX_mk rfl (Or.inl rfl))
  refine lt_s ?_ (uX_mk rfl (Or.inl rfl))
  refine lt_s ?_ (uX_mk rfl (Or.inl rfl))
  refine lt_s ?_ (uX_mk rfl (Or.inl rfl))
  refine lt_s ?_ (uX_mk rfl (Or.inl rfl))
  refine lt_s ?_ (uX_mk rfl (Or.inl rfl))
  refine lt_s ?_ (uX_mk rfl (Or.inl rfl))
  refine lt_s ?_ (uX_mk rfl (Or.inl rfl))
  refine lt_s ?_ (uX_mk rfl (Or.inr ⟨cl 4, 4, _, _, rfl, rfl, lt_s (lt_s (lt_s (lt_s lt_0 rfl) rfl) rfl) rfl⟩))
  refine lt_s ?_ (uX_mk rfl (Or.inl (congrArg (fun f : Nat → Int32 => (Sum.inl (cl 0, 11, Sum.inl f) : va_E)) (row_w (k := 11) (by decide)))))
  refine lt_s ?_ (uX_mk rfl (Or.inl (congrArg (fun f : Nat → Int32 => (Sum.inl (cl 0, 11, Sum.inl f) : va_E)) (row_w (k := 10) (by decide)))))
  refine lt_s ?_ (uX_mk rfl (Or.inl (congrArg (fun f : Nat → Int32 => (Sum.inl (cl 0, 11, Sum.inl f) : va_E)) (row_w (k := 9) (by decide)))))
  refine lt_s ?_ (uX_mk rfl (Or.inl (congrArg (fun f : Nat → Int32 => (Sum.inl (cl 0, 11, Sum.inl f) : va_E)) (row_w (k := 8) (by decide)))))
  refine lt_s ?_ (uX_mk rfl (Or.inl (congrArg (fun f : Nat → Int32 => (Sum.inl (cl 0, 11, Sum.inl f) : va_E)) (row_w (k := 7) (by decide)))))
  refine lt_s ?_ (uX_mk rfl (Or.inl (congrArg (fun f : Nat → Int32 => (Sum.inl (cl 0, 11, Sum.inl f) : va_E)) (row_w (k := 6) (by decide)))))
  refine lt_s ?_ (uX_mk rfl (Or.inl (congrArg (fun f : Nat → Int32 => (Sum.inl (cl 0, 11, Sum.inl f) : va_E)) (row_w (k := 5) (by decide)))))
  refine lt_s ?_ (uX_mk rfl (Or.inl (congrArg (fun f : Nat → Int32 => (Sum.inl (cl 0, 11, Sum.inl f) : va_E)) (row_w (k := 4) (by decide)))))
  refine lt_s ?_ (uX_mk rfl (Or.inl (congrArg (fun f : Nat → Int32 => (Sum.inl (cl 0, 11, Sum.inl f) : va_E)) (row_w (k := 3) (by decide)))))
  refine lt_s ?_ (uX_mk rfl (Or.inl (congrArg (fun f : Nat → Int32 => (Sum.inl (cl 0, 11, Sum.inl f) : va_E)) (row_w (k := 2) (by decide)))))
  refine lt_s ?_ (uX_mk rfl (Or.inl (congrArg (fun f : Nat → Int32 => (Sum.inl (cl 0, 11, Sum.inl f) : va_E)) (row_w (k := 1) (by decide)))))
  refine lt_s ?_ (uX_mk rfl (Or.inl (congrArg (fun f : Nat → Int32 => (Sum.inl (cl 0, 11, Sum.inl f) : va_E)) (row_w (k := 0) (by decide)))))
  refine lt_s ?_ (uX_mk rfl (Or.inr ⟨cl 4, 12, _, _, rfl, rfl, lt_s (lt_s (lt_s (lt_s (lt_s (lt_s (lt_s (lt_s (lt_s (lt_s (lt_s (lt_s (lt_0) rfl) rfl) rfl) rfl) rfl) rfl) rfl) rfl) rfl) rfl) rfl) rfl⟩))
  refine lt_s ?_ (uX_mk rfl (Or.inl rfl))
  refine lt_s ?_ (uX_mk rfl (Or.inl rfl))
  refine lt_s ?_ (uX_mk rfl (Or.inl rfl))
  refine lt_s ?_ (uX_mk rfl (Or.inl rfl))
  refine lt_s ?_ (uX_mk rfl (Or.inl rfl))
  refine lt_s ?_ (uX_mk rfl (Or.inl rfl))
  refine lt_s ?_ (uX_mk rfl (Or.inl rfl))
  refine lt_s ?_ (uX_mk rfl (Or.inr ⟨cl 3, 12, _, _, rfl, rfl, lt_s (lt_s (lt_s (lt_s (lt_s (lt_s (lt_s (lt_s (lt_s (lt_s (lt_s (lt_s (lt_0) rfl) rfl) rfl) rfl) rfl) rfl) rfl) rfl) rfl) rfl) rfl) rfl⟩))
  refine lt_s ?_ (uX_mk rfl (Or.inl (congrArg (fun f : Nat → Int32 => (Sum.inl (cl 0, 3, Sum.inl f) : va_E)) row_k)))
  refine lt_s ?_ (uX_mk rfl (Or.inl (congrArg (fun f : Nat → Int32 => (Sum.inl (cl 0, 3, Sum.inl f) : va_E)) row_k)))
  refine lt_s ?_ (uX_mk rfl (Or.inl (congrArg (fun f : Nat → Int32 => (Sum.inl (cl 0, 3, Sum.inl f) : va_E)) row_k)))
  refine lt_s ?_ (uX_mk rfl (Or.inl (congrArg (fun f : Nat → Int32 => (Sum.inl (cl 0, 3, Sum.inl f) : va_E)) row_k)))
  refine lt_s ?_ (uX_mk rfl (Or.inr ⟨cl 4, 4, _, _, rfl, rfl, lt_s (lt_s (lt_s (lt_s lt_0 rfl) rfl) rfl) rfl⟩))
  refine lt_s ?_ (uX_mk rfl (Or.inl rfl))
  refine lt_s ?_ (uX_mk rfl (Or.inl rfl))
  refine lt_s ?_ (uX_mk rfl (Or.inl (congrArg (fun f : Nat → Int32 => (Sum.inl (cl 0, 2, Sum.inl f) : va_E)) row_p)))
  refine lt_s ?_ (uX_mk rfl (Or.inl rfl))
  refine lt_s ?_ (uX_mk rfl (Or.inl rfl))
  refine lt_s ?_ (uX_mk rfl (Or.inl rfl))
  refine lt_s ?_ (uX_mk rfl (Or.inl rfl))
  refine lt_s ?_ (uX_mk rfl (Or.inl rfl))
  exact lt_0
