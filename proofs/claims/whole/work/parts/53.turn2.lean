theorem row_g : (upd (upd (upd (upd (fun _ => 0) 0 (iI 100)) 1 (iI 100)) 2 (iI 100)) 3 (iI 100)) = fun i => iI (if i < 4 then 100 else 0) := by
  funext i
  unfold upd
  match i with
  | 0 => rfl
  | 1 => rfl
  | 2 => rfl
  | 3 => rfl
  | i + 4 =>
    rw [if_neg (by omega), if_neg (by omega), if_neg (by omega), if_neg (by omega), if_neg (by omega)]
    rfl
theorem row_r : (upd (upd (upd (upd (fun _ => 0) 1 (iI 1)) 3 (iI 1)) 5 (iI 1)) 7 (iI 1)) = fun i => iI (if i % 2 = 1 ∧ i < 8 then 1 else 0) := by
  funext i
  unfold upd
  match i with
  | 0 => rfl
  | 1 => rfl
  | 2 => rfl
  | 3 => rfl
  | 4 => rfl
  | 5 => rfl
  | 6 => rfl
  | 7 => rfl
  | i + 8 =>
    rw [if_neg (by omega), if_neg (by omega), if_neg (by omega), if_neg (by omega), if_neg (by omega)]
    rfl
def uM (D : va_G) (cl : Nat → ClassId) (ws : va_W) (ad : Nat → Nat) (k : Nat) : Prop := ∃ e, ws[k]? = some (ad k, e) ∧ ceq e (zce sM (D, cl, ad) MM0 k)
theorem uM_mk {D : va_G} {cl : Nat → ClassId} {ws : va_W} {ad : Nat → Nat} {k : Nat} {e : va_E} (h1 : ws[k]? = some (ad k, e)) (h2 : ceq e (zce sM (D, cl, ad) MM0 k)) : uM D cl ws ad k := ⟨e, h1, h2⟩
set_option maxHeartbeats 4000000 in
set_option maxRecDepth 20000 in
theorem turnM {D : va_G} {cl : Nat → ClassId} {h0 : Nat} {ws : va_W} (hp : ∃ (q6 q14 q22 q30 q38 q46 q54 q62 q70 q78 q86 q94 q102 q110 q118 q126 q134 q142 q150 q158 q166 q174 q183 q191 q199 q207 q216 q224 q232 q240 q248 q256 q264 q272 q280 : Nat), ws = [(h0, .inr (5, [.ref q6, .ref q14, .int 0, .ref q22, .ref q30, .ref q38, .ref q46, .ref q54, .ref q62, .ref q70, .ref q78, .ref q86, .int 0, .ref q94, .ref q102, .ref q110, .ref q118, .int 0, .ref q126, .ref q134, .ref q142, .ref q150, .ref q158, .ref q166, .ref q174, .ref q183, .ref q191, .ref q199, .ref q207, .ref q216, .ref q224, .int 0, .ref q232, .ref q240, .ref q248, .ref q256, .ref q264, .ref q272, .int 0, .long 0, .long 0, .ref q280, .int 0, .int (iI 100), .int (iI 1000)])), (q6, .inl (cl 0, 4, .inl (upd (upd (upd (upd (fun _ => 0) 0 (iI 100)) 1 (iI 100)) 2 (iI 100)) 3 (iI 100)))), (q14, .inl (cl 0, 8, .inl (upd (upd (upd (upd (fun _ => 0) 1 (iI 1)) 3 (iI 1)) 5 (iI 1)) 7 (iI 1)))), (q22, .inl (cl 0, 12, .inl (fun _ => 0))), (q30, .inl (cl 0, 12, .inl (fun _ => 0))), (q38, .inl (cl 0, 12, .inl (fun _ => 0))), (q46, .inl (cl 0, 12, .inl (fun _ => 0))), (q54, .inl (cl 1, 12, .inl (fun _ => 0))), (q62, .inl (cl 1, 12, .inl (fun _ => 0))), (q70, .inl (cl 0, 24, .inl (fun _ => 0))), (q78, .inl (cl 0, 24, .inl (fun _ => 0))), (q86, .inl (cl 0, 24, .inl (fun _ => 0))), (q94, .inl (cl 0, 40, .inl (fun _ => 0))), (q102, .inl (cl 0, 40, .inl (fun _ => 0))), (q110, .inl (cl 0, 40, .inl (fun _ => 0))), (q118, .inl (cl 1, 40, .inl (fun _ => 0))), (q126, .inl (cl 0, 8, .inl (fun _ => 0))), (q134, .inl (cl 0, 8, .inl (fun _ => 0))), (q142, .inl (cl 0, 8, .inl (fun _ => 0))), (q150, .inl (cl 1, 8, .inl (fun _ => 0))), (q158, .inl (cl 1, 12, .inl (fun _ => 0))), (q166, .inl (cl 1, 8, .inl (fun _ => 0))), (q174, .inl (cl 1, 12, .inl (fun _ => 0))), (q183, .inl (cl 2, 732, .inr (.inl (fun _ => 0)))), (q191, .inl (cl 2, 24, .inr (.inl (fun _ => 0)))), (q199, .inl (cl 2, 12, .inr (.inl (fun _ => 0)))), (q207, .inl (cl 0, 12, .inl (fun _ => 0))), (q216, .inl (cl 0, 132, .inl (fun _ => 0))), (q224, .inl (cl 0, 44, .inl (fun _ => 0))), (q232, .inl (cl 0, 60, .inl (fun _ => 0))), (q240, .inl (cl 0, 60, .inl (fun _ => 0))), (q248, .inl (cl 0, 60, .inl (fun _ => 0))), (q256, .inl (cl 0, 60, .inl (fun _ => 0))), (q264, .inl (cl 2, 11, .inr (.inl (fun _ => 0)))), (q272, .inl (cl 2, 11, .inr (.inl (fun _ => 0)))), (q280, .inl (cl 0, 12, .inl (fun _ => 0)))]) : ∃ ad : Nat → Nat, ad 0 = h0 ∧ ∀ k, k < 36 → uM D cl ws ad k := by
  obtain ⟨q6, q14, q22, q30, q38, q46, q54, q62, q70, q78, q86, q94, q102, q110, q118, q126, q134, q142, q150, q158, q166, q174, q183, q191, q199, q207, q216, q224, q232, q240, q248, q256, q264, q272, q280, rfl⟩ := hp
  refine ⟨fun k => ([h0, q6, q14, q22, q30, q38, q46, q54, q62, q70, q78, q86, q94, q102, q110, q118, q126, q134, q142, q150, q158, q166, q174, q183, q191, q199, q207, q216, q224, q232, q240, q248, q256, q264, q272, q280] : List Nat).getD k 0, rfl, ?_⟩
  refine lt_s ?_ (uM_mk rfl (Or.inl rfl))
  refine lt_s ?_ (uM_mk rfl (Or.inl rfl))
  refine lt_s ?_ (uM_mk rfl (Or.inl rfl))
  refine lt_s ?_ (uM_mk rfl (Or.inl rfl))
  refine lt_s ?_ (uM_mk rfl (Or.inl rfl))
  refine lt_s ?_ (uM_mk rfl (Or.inl rfl))
  refine lt_s ?_ (uM_mk rfl (Or.inl rfl))
  refine lt_s ?_ (uM_mk rfl (Or.inl rfl))
  refine lt_s ?_ (uM_mk rfl (Or.inl rfl))
  refine lt_s ?_ (uM_mk rfl (Or.inl rfl))
  refine lt_s ?_ (uM_mk rfl (Or.inl rfl))
  refine lt_s ?_ (uM_mk rfl (Or.inl rfl))
  refine lt_s ?_ (uM_mk rfl (Or.inl rfl))
  refine lt_s ?_ (uM_mk rfl (Or.inl rfl))
  refine lt_s ?_ (uM_mk rfl (Or.inl rfl))
  refine lt_s ?_ (uM_mk rfl (Or.inl rfl))
  refine lt_s ?_ (uM_mk rfl (Or.inl rfl))
  refine lt_s ?_ (uM_mk rfl (Or.inl rfl))
  refine lt_s ?_ (uM_mk rfl (Or.inl rfl))
  refine lt_s ?_ (uM_mk rfl (Or.inl rfl))
  refine lt_s ?_ (uM_mk rfl (Or.inl rfl))
  refine lt_s ?_ (uM_mk rfl (Or.inl rfl))
  refine lt_s ?_ (uM_mk rfl (Or.inl rfl))
  refine lt_s ?_ (uM_mk rfl (Or.inl rfl))
  refine lt_s ?_ (uM_mk rfl (Or.inl rfl))
  refine lt_s ?_ (uM_mk rfl (Or.inl rfl))
  refine lt_s ?_ (uM_mk rfl (Or.inl rfl))
  refine lt_s ?_ (uM_mk rfl (Or.inl rfl))
  refine lt_s ?_ (uM_mk rfl (Or.inl rfl))
  refine lt_s ?_ (uM_mk rfl (Or.inl rfl))
  refine lt_s ?_ (uM_mk rfl (Or.inl rfl))
  refine lt_s ?_ (uM_mk rfl (Or.inl rfl))
  refine lt_s ?_ (uM_mk rfl (Or.inl rfl))
  refine lt_s ?_ (uM_mk rfl (Or.inl (congrArg (fun f : Nat → Int32 => (Sum.inl (cl 0, 8, Sum.inl f) : va_E)) row_r)))
  refine lt_s ?_ (uM_mk rfl (Or.inl (congrArg (fun f : Nat → Int32 => (Sum.inl (cl 0, 4, Sum.inl f) : va_E)) row_g)))
  refine lt_s ?_ (uM_mk rfl (Or.inl rfl))
  exact lt_0
theorem toX {D : va_G} {cl : Nat → ClassId} {A : Nat → Prop} {X ws : va_W} {H : Heap} {h0 : Nat} (hp : PO cl h0 ws) (hP : va_P D zcl (X ++ ws) H) (hD : va_D A (X ++ ws)) : ∃ ad : Nat → Nat, ad 0 = h0 ∧ va_P D zcl (X ++ zw sX (D, cl, ad) MX0) H ∧ va_D A (X ++ zw sX (D, cl, ad) MX0) := by
  obtain ⟨ad, h1, h2⟩ := turnX (D := D) hp
  refine ⟨ad, h1, w_turn ixX jxX (fun k hk => jxX_ix k (by rw [zw_len] at hk; exact hk)) (fun k hk => ?_) hP hD⟩
  rw [zw_len] at hk
  obtain ⟨e, g1, g2⟩ := h2 k hk
  exact ⟨_, e, _, zw_at hk, g1, g2⟩
theorem toM {D : va_G} {cl : Nat → ClassId} {A : Nat → Prop} {X ws : va_W} {H : Heap} {h0 : Nat} (hp : ∃ (q6 q14 q22 q30 q38 q46 q54 q62 q70 q78 q86 q94 q102 q110 q118 q126 q134 q142 q150 q158 q166 q174 q183 q191 q199 q207 q216 q224 q232 q240 q248 q256 q264 q272 q280 : Nat), ws = [(h0, .inr (5, [.ref q6, .ref q14, .int 0, .ref q22, .ref q30, .ref q38, .ref q46, .ref q54, .ref q62, .ref q70, .ref q78, .ref q86, .int 0, .ref q94, .ref q102, .ref q110, .ref q118, .int 0, .ref q126, .ref q134, .ref q142, .ref q150, .ref q158, .ref q166, .ref q174, .ref q183, .ref q191, .ref q199, .ref q207, .ref q216, .ref q224, .int 0, .ref q232, .ref q240, .ref q248, .ref q256, .ref q264, .ref q272, .int 0, .long 0, .long 0, .ref q280, .int 0, .int (iI 100), .int (iI 1000)])), (q6, .inl (cl 0, 4, .inl (upd (upd (upd (upd (fun _ => 0) 0 (iI 100)) 1 (iI 100)) 2 (iI 100)) 3 (iI 100)))), (q14, .inl (cl 0, 8, .inl (upd (upd (upd (upd (fun _ => 0) 1 (iI 1)) 3 (iI 1)) 5 (iI 1)) 7 (iI 1)))), (q22, .inl (cl 0, 12, .inl (fun _ => 0))), (q30, .inl (cl 0, 12, .inl (fun _ => 0))), (q38, .inl (cl 0, 12, .inl (fun _ => 0))), (q46, .inl (cl 0, 12, .inl (fun _ => 0))), (q54, .inl (cl 1, 12, .inl (fun _ => 0))), (q62, .inl (cl 1, 12, .inl (fun _ => 0))), (q70, .inl (cl 0, 24, .inl (fun _ => 0))), (q78, .inl (cl 0, 24, .inl (fun _ => 0))), (q86, .inl (cl 0, 24, .inl (fun _ => 0))), (q94, .inl (cl 0, 40, .inl (fun _ => 0))), (q102, .inl (cl 0, 40, .inl (fun _ => 0))), (q110, .inl (cl 0, 40, .inl (fun _ => 0))), (q118, .inl (cl 1, 40, .inl (fun _ => 0))), (q126, .inl (cl 0, 8, .inl (fun _ => 0))), (q134, .inl (cl 0, 8, .inl (fun _ => 0))), (q142, .inl (cl 0, 8, .inl (fun _ => 0))), (q150, .inl (cl 1, 8, .inl (fun _ => 0))), (q158, .inl (cl 1, 12, .inl (fun _ => 0))), (q166, .inl (cl 1, 8, .inl (fun _ => 0))), (q174, .inl (cl 1, 12, .inl (fun _ => 0))), (q183, .inl (cl 2, 732, .inr (.inl (fun _ => 0)))), (q191, .inl (cl 2, 24, .inr (.inl (fun _ => 0)))), (q199, .inl (cl 2, 12, .inr (.inl (fun _ => 0)))), (q207, .inl (cl 0, 12, .inl (fun _ => 0))), (q216, .inl (cl 0, 132, .inl (fun _ => 0))), (q224, .inl (cl 0, 44, .inl (fun _ => 0))), (q232, .inl (cl 0, 60, .inl (fun _ => 0))), (q240, .inl (cl 0, 60, .inl (fun _ => 0))), (q248, .inl (cl 0, 60, .inl (fun _ => 0))), (q256, .inl (cl 0, 60, .inl (fun _ => 0))), (q264, .inl (cl 2, 11, .inr (.inl (fun _ => 0)))), (q272, .inl (cl 2, 11, .inr (.inl (fun _ => 0)))), (q280, .inl (cl 0, 12, .inl (fun _ => 0)))]) (hP : va_P D zcl (X ++ ws) H) (hD : va_D A (X ++ ws)) : ∃ ad : Nat → Nat, ad 0 = h0 ∧ va_P D zcl (X ++ zw sM (D, cl, ad) MM0) H ∧ va_D A (X ++ zw sM (D, cl, ad) MM0) := by
  obtain ⟨ad, h1, h2⟩ := turnM (D := D) hp
  refine ⟨ad, h1, w_turn (fun k => k) (fun k => k) (fun k _ => rfl) (fun k hk => ?_) hP hD⟩
  rw [zw_len] at hk
  obtain ⟨e, g1, g2⟩ := h2 k hk
  exact ⟨_, e, _, zw_at hk, g1, g2⟩
