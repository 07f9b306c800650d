/-- what the reference keeps has not changed -/
def kM (M N : zM) : Prop := ∀ a i, ¬ (a = 20 ∨ a = 21 ∨ a = 22 ∨ a = 26 ∨ a = 35 ∨ (a = 0 ∧ (i = 38 ∨ i = 42))) → N.1 a i = M.1 a i
theorem kM.rf (M : zM) : kM M M := fun _ _ _ => rfl
theorem kM.tr {M N O : zM} (h : kM M N) (g : kM N O) : kM M O := fun a i q => (g a i q).trans (h a i q)
theorem kM_J {M N : zM} (h : N.1 = M.1) : kM M N := fun _ _ _ => by rw [h]
theorem kM_I {M N : zM} (h : kM M N) {k i : Nat} {z : Int} (hk : k = 20 ∨ k = 21 ∨ k = 22 ∨ k = 26 ∨ k = 35 ∨ (k = 0 ∧ (i = 38 ∨ i = 42))) : kM M (zI N k i z) := fun a j q => by
  rw [zI_o (fun e => q (by rw [e.1, e.2]; exact hk))]
  exact h a j q
set_option maxRecDepth 20000 in
theorem RMk_ {S : zS} {M : zM} (hR : RM S M) (hO : ok S) {N : zM} (g : kM M N) : RM (S) (N) := by
  have h12 := hO.n
  obtain ⟨⟨n0, n1, n2, n3⟩, hk, hb, hb2, hl, hl2, hp, hp2, hw, ht, hlk, hpr⟩ := hR
  refine ⟨?_, ?_, ?_, ?_, ?_, ?_, ?_, ?_, ?_, ?_, ?_, ?_⟩
  · exact ⟨(by rw [g _ _ (by omega)]; exact n0), (by rw [g _ _ (by omega)]; exact n1), (by rw [g _ _ (by omega)]; exact n2), (by rw [g _ _ (by omega)]; exact n3)⟩
  · exact fun k9 h1 => ⟨(by rw [g _ _ (by omega)]; exact (hk k9 h1).1), (by rw [g _ _ (by omega)]; exact (hk k9 h1).2.1), (by rw [g _ _ (by omega)]; exact (hk k9 h1).2.2)⟩
  · exact fun b9 h1 => ⟨⟨(by rw [g _ _ (by omega)]; exact (hb b9 h1).1.1), (by rw [g _ _ (by omega)]; exact (hb b9 h1).1.2.1), (by rw [g _ _ (by omega)]; exact (hb b9 h1).1.2.2.1), (by rw [g _ _ (by omega)]; exact (hb b9 h1).1.2.2.2)⟩, fun s9 hs => ⟨(by rw [g _ _ (by omega)]; exact ((hb b9 h1).2 s9 hs).1), (by rw [g _ _ (by omega)]; exact ((hb b9 h1).2 s9 hs).2.1), fun e => (by rw [g _ _ (by omega)]; exact ((hb b9 h1).2 s9 hs).2.2 e)⟩⟩
  · exact fun b9 h1 => ⟨(by rw [g _ _ (by omega)]; exact (hb2 b9 h1).1), (by rw [g _ _ (by omega)]; exact (hb2 b9 h1).2)⟩
  · exact fun l9 h1 => ⟨(by rw [g _ _ (by omega)]; exact (hl l9 h1).1), (by rw [g _ _ (by omega)]; exact (hl l9 h1).2.1), (by rw [g _ _ (by omega)]; exact (hl l9 h1).2.2)⟩
  · exact fun l9 h1 => (by rw [g _ _ (by omega)]; exact hl2 l9 h1)
  · exact fun p9 h1 => ⟨(by rw [g _ _ (by omega)]; exact (hp p9 h1).1), (by rw [g _ _ (by omega)]; exact (hp p9 h1).2.1), (by rw [g _ _ (by omega)]; exact (hp p9 h1).2.2)⟩
  · exact fun p9 h1 => (by rw [g _ _ (by omega)]; exact hp2 p9 h1)
  · exact fun b9 h1 t9 h2 => (by rw [g _ _ (by omega)]; exact hw b9 h1 t9 h2)
  · exact fun k9 h1 t9 h2 => (by rw [g _ _ (by omega)]; exact ht k9 h1 t9 h2)
  · exact fun l9 h1 => ⟨(by rw [g _ _ (by omega)]; exact (hlk l9 h1).1), (by rw [g _ _ (by omega)]; exact (hlk l9 h1).2.1), (by rw [g _ _ (by omega)]; exact (hlk l9 h1).2.2.1), (by rw [g _ _ (by omega)]; exact (hlk l9 h1).2.2.2)⟩
  · exact ⟨(by rw [g _ _ (by omega)]; exact hpr.1), (by rw [g _ _ (by omega)]; exact hpr.2)⟩
theorem RMk {S : zS} {M N : zM} (hR : RM S M) (hO : ok S) (g : kM M N) : RM S N := RMk_ hR hO g
set_option maxRecDepth 20000 in
theorem RM_kind0 {S : zS} {M : zM} (hR : RM S M) (hO : ok S) {k : Nat} {v : Int} (h4 : k < 4) : RM (uS S 1 k 0 v) (zI M 1 k v) := by
  have h12 := hO.n
  obtain ⟨⟨n0, n1, n2, n3⟩, hk, hb, hb2, hl, hl2, hp, hp2, hw, ht, hlk, hpr⟩ := hR
  refine ⟨?_, ?_, ?_, ?_, ?_, ?_, ?_, ?_, ?_, ?_, ?_, ?_⟩
  · exact ⟨(by rw [zI_o (by omega)]; exact n0), (by rw [zI_o (by omega)]; exact n1), (by rw [zI_o (by omega)]; exact n2), (by rw [zI_o (by omega)]; exact n3)⟩
  · exact fun k9 h1 => ⟨(by rw [zI_at, uS_at]; exact ite2 (by omega) ((hk k9 h1).1)), (by rw [zI_o (by omega), uS_o (by omega)]; exact (hk k9 h1).2.1), (by rw [zI_o (by omega), uS_o (by omega)]; exact (hk k9 h1).2.2)⟩
  · exact fun b9 h1 => ⟨⟨(by rw [zI_o (by omega)]; exact (hb b9 h1).1.1), (by rw [zI_o (by omega)]; exact (hb b9 h1).1.2.1), (by rw [zI_o (by omega)]; exact (hb b9 h1).1.2.2.1), (by rw [zI_o (by omega)]; exact (hb b9 h1).1.2.2.2)⟩, fun s9 hs => ⟨(by rw [zI_o (by omega)]; exact ((hb b9 h1).2 s9 hs).1), (by rw [zI_o (by omega)]; exact ((hb b9 h1).2 s9 hs).2.1), fun e => (by rw [zI_o (by omega)]; exact ((hb b9 h1).2 s9 hs).2.2 e)⟩⟩
  · exact fun b9 h1 => ⟨(by rw [zI_o (by omega)]; exact (hb2 b9 h1).1), (by rw [zI_o (by omega)]; exact (hb2 b9 h1).2)⟩
  · exact fun l9 h1 => ⟨(by rw [zI_o (by omega)]; exact (hl l9 h1).1), (by rw [zI_o (by omega)]; exact (hl l9 h1).2.1), (by rw [zI_o (by omega)]; exact (hl l9 h1).2.2)⟩
  · exact fun l9 h1 => (by rw [zI_o (by omega)]; exact hl2 l9 h1)
  · exact fun p9 h1 => ⟨(by rw [zI_o (by omega)]; exact (hp p9 h1).1), (by rw [zI_o (by omega)]; exact (hp p9 h1).2.1), (by rw [zI_o (by omega)]; exact (hp p9 h1).2.2)⟩
  · exact fun p9 h1 => (by rw [zI_o (by omega)]; exact hp2 p9 h1)
  · exact fun b9 h1 t9 h2 => (by rw [zI_o (by omega)]; exact hw b9 h1 t9 h2)
  · exact fun k9 h1 t9 h2 => (by rw [zI_o (by omega)]; exact ht k9 h1 t9 h2)
  · exact fun l9 h1 => ⟨(by rw [zI_o (by omega)]; exact (hlk l9 h1).1), (by rw [zI_o (by omega)]; exact (hlk l9 h1).2.1), (by rw [zI_o (by omega)]; exact (hlk l9 h1).2.2.1), (by rw [zI_o (by omega)]; exact (hlk l9 h1).2.2.2)⟩
  · exact ⟨(by rw [zI_o (by omega)]; exact hpr.1), (by rw [zI_o (by omega)]; exact hpr.2)⟩
set_option maxRecDepth 20000 in
theorem RM_kind1 {S : zS} {M : zM} (hR : RM S M) (hO : ok S) {k : Nat} {v : Int} (h4 : k < 4) : RM (uS S 1 k 1 v) (zI M 2 (2 * k) v) := by
  have h12 := hO.n
  obtain ⟨⟨n0, n1, n2, n3⟩, hk, hb, hb2, hl, hl2, hp, hp2, hw, ht, hlk, hpr⟩ := hR
  refine ⟨?_, ?_, ?_, ?_, ?_, ?_, ?_, ?_, ?_, ?_, ?_, ?_⟩
  · exact ⟨(by rw [zI_o (by omega)]; exact n0), (by rw [zI_o (by omega)]; exact n1), (by rw [zI_o (by omega)]; exact n2), (by rw [zI_o (by omega)]; exact n3)⟩
  · exact fun k9 h1 => ⟨(by rw [zI_o (by omega), uS_o (by omega)]; exact (hk k9 h1).1), (by rw [zI_at, uS_at]; exact ite2 (by omega) ((hk k9 h1).2.1)), (by rw [zI_o (by omega), uS_o (by omega)]; exact (hk k9 h1).2.2)⟩
  · exact fun b9 h1 => ⟨⟨(by rw [zI_o (by omega)]; exact (hb b9 h1).1.1), (by rw [zI_o (by omega)]; exact (hb b9 h1).1.2.1), (by rw [zI_o (by omega)]; exact (hb b9 h1).1.2.2.1), (by rw [zI_o (by omega)]; exact (hb b9 h1).1.2.2.2)⟩, fun s9 hs => ⟨(by rw [zI_o (by omega)]; exact ((hb b9 h1).2 s9 hs).1), (by rw [zI_o (by omega)]; exact ((hb b9 h1).2 s9 hs).2.1), fun e => (by rw [zI_o (by omega)]; exact ((hb b9 h1).2 s9 hs).2.2 e)⟩⟩
  · exact fun b9 h1 => ⟨(by rw [zI_o (by omega)]; exact (hb2 b9 h1).1), (by rw [zI_o (by omega)]; exact (hb2 b9 h1).2)⟩
  · exact fun l9 h1 => ⟨(by rw [zI_o (by omega)]; exact (hl l9 h1).1), (by rw [zI_o (by omega)]; exact (hl l9 h1).2.1), (by rw [zI_o (by omega)]; exact (hl l9 h1).2.2)⟩
  · exact fun l9 h1 => (by rw [zI_o (by omega)]; exact hl2 l9 h1)
  · exact fun p9 h1 => ⟨(by rw [zI_o (by omega)]; exact (hp p9 h1).1), (by rw [zI_o (by omega)]; exact (hp p9 h1).2.1), (by rw [zI_o (by omega)]; exact (hp p9 h1).2.2)⟩
  · exact fun p9 h1 => (by rw [zI_o (by omega)]; exact hp2 p9 h1)
  · exact fun b9 h1 t9 h2 => (by rw [zI_o (by omega)]; exact hw b9 h1 t9 h2)
  · exact fun k9 h1 t9 h2 => (by rw [zI_o (by omega)]; exact ht k9 h1 t9 h2)
  · exact fun l9 h1 => ⟨(by rw [zI_o (by omega)]; exact (hlk l9 h1).1), (by rw [zI_o (by omega)]; exact (hlk l9 h1).2.1), (by rw [zI_o (by omega)]; exact (hlk l9 h1).2.2.1), (by rw [zI_o (by omega)]; exact (hlk l9 h1).2.2.2)⟩
  · exact ⟨(by rw [zI_o (by omega)]; exact hpr.1), (by rw [zI_o (by omega)]; exact hpr.2)⟩
set_option maxRecDepth 20000 in
theorem RM_kind2 {S : zS} {M : zM} (hR : RM S M) (hO : ok S) {k : Nat} {v : Int} (h4 : k < 4) : RM (uS S 1 k 2 v) (zI M 2 (2 * k + 1) v) := by
  have h12 := hO.n
  obtain ⟨⟨n0, n1, n2, n3⟩, hk, hb, hb2, hl, hl2, hp, hp2, hw, ht, hlk, hpr⟩ := hR
  refine ⟨?_, ?_, ?_, ?_, ?_, ?_, ?_, ?_, ?_, ?_, ?_, ?_⟩
  · exact ⟨(by rw [zI_o (by omega)]; exact n0), (by rw [zI_o (by omega)]; exact n1), (by rw [zI_o (by omega)]; exact n2), (by rw [zI_o (by omega)]; exact n3)⟩
  · exact fun k9 h1 => ⟨(by rw [zI_o (by omega), uS_o (by omega)]; exact (hk k9 h1).1), (by rw [zI_o (by omega), uS_o (by omega)]; exact (hk k9 h1).2.1), (by rw [zI_at, uS_at]; exact ite2 (by omega) ((hk k9 h1).2.2))⟩
  · exact fun b9 h1 => ⟨⟨(by rw [zI_o (by omega)]; exact (hb b9 h1).1.1), (by rw [zI_o (by omega)]; exact (hb b9 h1).1.2.1), (by rw [zI_o (by omega)]; exact (hb b9 h1).1.2.2.1), (by rw [zI_o (by omega)]; exact (hb b9 h1).1.2.2.2)⟩, fun s9 hs => ⟨(by rw [zI_o (by omega)]; exact ((hb b9 h1).2 s9 hs).1), (by rw [zI_o (by omega)]; exact ((hb b9 h1).2 s9 hs).2.1), fun e => (by rw [zI_o (by omega)]; exact ((hb b9 h1).2 s9 hs).2.2 e)⟩⟩
  · exact fun b9 h1 => ⟨(by rw [zI_o (by omega)]; exact (hb2 b9 h1).1), (by rw [zI_o (by omega)]; exact (hb2 b9 h1).2)⟩
  · exact fun l9 h1 => ⟨(by rw [zI_o (by omega)]; exact (hl l9 h1).1), (by rw [zI_o (by omega)]; exact (hl l9 h1).2.1), (by rw [zI_o (by omega)]; exact (hl l9 h1).2.2)⟩
  · exact fun l9 h1 => (by rw [zI_o (by omega)]; exact hl2 l9 h1)
  · exact fun p9 h1 => ⟨(by rw [zI_o (by omega)]; exact (hp p9 h1).1), (by rw [zI_o (by omega)]; exact (hp p9 h1).2.1), (by rw [zI_o (by omega)]; exact (hp p9 h1).2.2)⟩
  · exact fun p9 h1 => (by rw [zI_o (by omega)]; exact hp2 p9 h1)
  · exact fun b9 h1 t9 h2 => (by rw [zI_o (by omega)]; exact hw b9 h1 t9 h2)
  · exact fun k9 h1 t9 h2 => (by rw [zI_o (by omega)]; exact ht k9 h1 t9 h2)
  · exact fun l9 h1 => ⟨(by rw [zI_o (by omega)]; exact (hlk l9 h1).1), (by rw [zI_o (by omega)]; exact (hlk l9 h1).2.1), (by rw [zI_o (by omega)]; exact (hlk l9 h1).2.2.1), (by rw [zI_o (by omega)]; exact (hlk l9 h1).2.2.2)⟩
  · exact ⟨(by rw [zI_o (by omega)]; exact hpr.1), (by rw [zI_o (by omega)]; exact hpr.2)⟩
set_option maxRecDepth 20000 in
theorem RM_wet {S : zS} {M : zM} (hR : RM S M) (hO : ok S) {b : Nat} {z : Int} (h4 : b < 12) : RM (uS S 2 b 4 z) (zI M 7 b z) := by
  have h12 := hO.n
  obtain ⟨⟨n0, n1, n2, n3⟩, hk, hb, hb2, hl, hl2, hp, hp2, hw, ht, hlk, hpr⟩ := hR
  refine ⟨?_, ?_, ?_, ?_, ?_, ?_, ?_, ?_, ?_, ?_, ?_, ?_⟩
  · exact ⟨(by rw [zI_o (by omega)]; exact n0), (by rw [zI_o (by omega)]; exact n1), (by rw [zI_o (by omega)]; exact n2), (by rw [zI_o (by omega)]; exact n3)⟩
  · exact fun k9 h1 => ⟨(by rw [zI_o (by omega)]; exact (hk k9 h1).1), (by rw [zI_o (by omega)]; exact (hk k9 h1).2.1), (by rw [zI_o (by omega)]; exact (hk k9 h1).2.2)⟩
  · exact fun b9 h1 => ⟨⟨(by rw [zI_o (by omega), uS_o (by omega)]; exact (hb b9 h1).1.1), (by rw [zI_o (by omega), uS_o (by omega)]; exact (hb b9 h1).1.2.1), (by rw [zI_o (by omega), uS_o (by omega)]; exact (hb b9 h1).1.2.2.1), (by rw [zI_o (by omega), uS_o (by omega)]; exact (hb b9 h1).1.2.2.2)⟩, fun s9 hs => (by rw [zI_o (by omega), zI_o (by omega), zI_o (by omega)]; exact (hb b9 h1).2 s9 hs)⟩
  · exact fun b9 h1 => ⟨(by rw [zI_at, uS_at]; exact ite2 (by omega) ((hb2 b9 h1).1)), (by rw [zI_o (by omega), uS_o (by omega)]; exact (hb2 b9 h1).2)⟩
  · exact fun l9 h1 => ⟨(by rw [zI_o (by omega)]; exact (hl l9 h1).1), (by rw [zI_o (by omega)]; exact (hl l9 h1).2.1), (by rw [zI_o (by omega)]; exact (hl l9 h1).2.2)⟩
  · exact fun l9 h1 => (by rw [zI_o (by omega)]; exact hl2 l9 h1)
  · exact fun p9 h1 => ⟨(by rw [zI_o (by omega)]; exact (hp p9 h1).1), (by rw [zI_o (by omega)]; exact (hp p9 h1).2.1), (by rw [zI_o (by omega)]; exact (hp p9 h1).2.2)⟩
  · exact fun p9 h1 => (by rw [zI_o (by omega)]; exact hp2 p9 h1)
  · exact fun b9 h1 t9 h2 => (by rw [zI_o (by omega)]; exact hw b9 h1 t9 h2)
  · exact fun k9 h1 t9 h2 => (by rw [zI_o (by omega)]; exact ht k9 h1 t9 h2)
  · exact fun l9 h1 => ⟨(by rw [zI_o (by omega)]; exact (hlk l9 h1).1), (by rw [zI_o (by omega)]; exact (hlk l9 h1).2.1), (by rw [zI_o (by omega)]; exact (hlk l9 h1).2.2.1), (by rw [zI_o (by omega)]; exact (hlk l9 h1).2.2.2)⟩
  · exact ⟨(by rw [zI_o (by omega)]; exact hpr.1), (by rw [zI_o (by omega)]; exact hpr.2)⟩
set_option maxRecDepth 20000 in
theorem RM_fall {S : zS} {M : zM} (hR : RM S M) (hO : ok S) {b : Nat} (h4 : b < 12) : RM (uS S 2 b 5 1) (zI M 8 b 1) := by
  have h12 := hO.n
  obtain ⟨⟨n0, n1, n2, n3⟩, hk, hb, hb2, hl, hl2, hp, hp2, hw, ht, hlk, hpr⟩ := hR
  refine ⟨?_, ?_, ?_, ?_, ?_, ?_, ?_, ?_, ?_, ?_, ?_, ?_⟩
  · exact ⟨(by rw [zI_o (by omega)]; exact n0), (by rw [zI_o (by omega)]; exact n1), (by rw [zI_o (by omega)]; exact n2), (by rw [zI_o (by omega)]; exact n3)⟩
  · exact fun k9 h1 => ⟨(by rw [zI_o (by omega)]; exact (hk k9 h1).1), (by rw [zI_o (by omega)]; exact (hk k9 h1).2.1), (by rw [zI_o (by omega)]; exact (hk k9 h1).2.2)⟩
  · exact fun b9 h1 => ⟨⟨(by rw [zI_o (by omega), uS_o (by omega)]; exact (hb b9 h1).1.1), (by rw [zI_o (by omega), uS_o (by omega)]; exact (hb b9 h1).1.2.1), (by rw [zI_o (by omega), uS_o (by omega)]; exact (hb b9 h1).1.2.2.1), (by rw [zI_o (by omega), uS_o (by omega)]; exact (hb b9 h1).1.2.2.2)⟩, fun s9 hs => (by rw [zI_o (by omega), zI_o (by omega), zI_o (by omega)]; exact (hb b9 h1).2 s9 hs)⟩
  · exact fun b9 h1 => ⟨(by rw [zI_o (by omega), uS_o (by omega)]; exact (hb2 b9 h1).1), (by rw [zI_at, uS_at]; exact ite2 (by omega) ((hb2 b9 h1).2))⟩
  · exact fun l9 h1 => ⟨(by rw [zI_o (by omega)]; exact (hl l9 h1).1), (by rw [zI_o (by omega)]; exact (hl l9 h1).2.1), (by rw [zI_o (by omega)]; exact (hl l9 h1).2.2)⟩
  · exact fun l9 h1 => (by rw [zI_o (by omega)]; exact hl2 l9 h1)
  · exact fun p9 h1 => ⟨(by rw [zI_o (by omega)]; exact (hp p9 h1).1), (by rw [zI_o (by omega)]; exact (hp p9 h1).2.1), (by rw [zI_o (by omega)]; exact (hp p9 h1).2.2)⟩
  · exact fun p9 h1 => (by rw [zI_o (by omega)]; exact hp2 p9 h1)
  · exact fun b9 h1 t9 h2 => (by rw [zI_o (by omega)]; exact hw b9 h1 t9 h2)
  · exact fun k9 h1 t9 h2 => (by rw [zI_o (by omega)]; exact ht k9 h1 t9 h2)
  · exact fun l9 h1 => ⟨(by rw [zI_o (by omega)]; exact (hlk l9 h1).1), (by rw [zI_o (by omega)]; exact (hlk l9 h1).2.1), (by rw [zI_o (by omega)]; exact (hlk l9 h1).2.2.1), (by rw [zI_o (by omega)]; exact (hlk l9 h1).2.2.2)⟩
  · exact ⟨(by rw [zI_o (by omega)]; exact hpr.1), (by rw [zI_o (by omega)]; exact hpr.2)⟩
set_option maxRecDepth 20000 in
theorem RM_seat {S : zS} {M : zM} (hR : RM S M) (hO : ok S) {b s : Nat} {p n w : Int} (h4 : b < S.1 0) (h3 : s < 2) : RM (uS (uS (uS S 3 b s p) 4 b s n) 5 b s w) (zI (zI (zI M 9 (2 * b + s) p) 10 (2 * b + s) n) 11 (2 * b + s) w) := by
  have h12 := hO.n
  obtain ⟨⟨n0, n1, n2, n3⟩, hk, hb, hb2, hl, hl2, hp, hp2, hw, ht, hlk, hpr⟩ := hR
  refine ⟨?_, ?_, ?_, ?_, ?_, ?_, ?_, ?_, ?_, ?_, ?_, ?_⟩
  · exact ⟨(by rw [zI_o (by omega), zI_o (by omega), zI_o (by omega)]; exact n0), (by rw [zI_o (by omega), zI_o (by omega), zI_o (by omega)]; exact n1), (by rw [zI_o (by omega), zI_o (by omega), zI_o (by omega)]; exact n2), (by rw [zI_o (by omega), zI_o (by omega), zI_o (by omega)]; exact n3)⟩
  · exact fun k9 h1 => ⟨(by rw [zI_o (by omega), zI_o (by omega), zI_o (by omega)]; exact (hk k9 h1).1), (by rw [zI_o (by omega), zI_o (by omega), zI_o (by omega)]; exact (hk k9 h1).2.1), (by rw [zI_o (by omega), zI_o (by omega), zI_o (by omega)]; exact (hk k9 h1).2.2)⟩
  · exact fun b9 h1 => ⟨⟨(by rw [zI_o (by omega), zI_o (by omega), zI_o (by omega)]; exact (hb b9 h1).1.1), (by rw [zI_o (by omega), zI_o (by omega), zI_o (by omega)]; exact (hb b9 h1).1.2.1), (by rw [zI_o (by omega), zI_o (by omega), zI_o (by omega)]; exact (hb b9 h1).1.2.2.1), (by rw [zI_o (by omega), zI_o (by omega), zI_o (by omega)]; exact (hb b9 h1).1.2.2.2)⟩, fun s9 hs => ⟨by
      show _ = (uS S 3 b s p).2 3 b9 s9
      rw [zI_o (by omega), zI_o (by omega), zI_at, uS_at]
      exact ite2 (by omega) ((hb b9 h1).2 s9 hs).1, by
      show _ = (uS (uS S 3 b s p) 4 b s n).2 4 b9 s9
      rw [zI_o (by omega), zI_at, uS_at, zI_o (by omega)]
      exact ite2 (by omega) ((hb b9 h1).2 s9 hs).2.1, fun e => by
      have e : (uS (uS S 3 b s p) 4 b s n).2 4 b9 s9 ≠ -900009 := e
      rw [uS_at] at e
      rw [zI_at, uS_at, zI_o (by omega), zI_o (by omega)]
      by_cases z : b9 = b ∧ s9 = s
      · rw [if_pos (show 11 = 11 ∧ 2 * b9 + s9 = 2 * b + s by omega), if_pos (show 5 = 5 ∧ b9 = b ∧ s9 = s by omega)]
      · rw [if_neg (by omega)] at e
        rw [if_neg (by omega), if_neg (by omega)]
        exact ((hb b9 h1).2 s9 hs).2.2 e⟩⟩
  · exact fun b9 h1 => ⟨(by rw [zI_o (by omega), zI_o (by omega), zI_o (by omega)]; exact (hb2 b9 h1).1), (by rw [zI_o (by omega), zI_o (by omega), zI_o (by omega)]; exact (hb2 b9 h1).2)⟩
  · exact fun l9 h1 => ⟨(by rw [zI_o (by omega), zI_o (by omega), zI_o (by omega)]; exact (hl l9 h1).1), (by rw [zI_o (by omega), zI_o (by omega), zI_o (by omega)]; exact (hl l9 h1).2.1), (by rw [zI_o (by omega), zI_o (by omega), zI_o (by omega)]; exact (hl l9 h1).2.2)⟩
  · exact fun l9 h1 => (by rw [zI_o (by omega), zI_o (by omega), zI_o (by omega)]; exact hl2 l9 h1)
  · exact fun p9 h1 => ⟨(by rw [zI_o (by omega), zI_o (by omega), zI_o (by omega)]; exact (hp p9 h1).1), (by rw [zI_o (by omega), zI_o (by omega), zI_o (by omega)]; exact (hp p9 h1).2.1), (by rw [zI_o (by omega), zI_o (by omega), zI_o (by omega)]; exact (hp p9 h1).2.2)⟩
  · exact fun p9 h1 => (by rw [zI_o (by omega), zI_o (by omega), zI_o (by omega)]; exact hp2 p9 h1)
  · exact fun b9 h1 t9 h2 => (by rw [zI_o (by omega), zI_o (by omega), zI_o (by omega)]; exact hw b9 h1 t9 h2)
  · exact fun k9 h1 t9 h2 => (by rw [zI_o (by omega), zI_o (by omega), zI_o (by omega)]; exact ht k9 h1 t9 h2)
  · exact fun l9 h1 => ⟨(by rw [zI_o (by omega), zI_o (by omega), zI_o (by omega)]; exact (hlk l9 h1).1), (by rw [zI_o (by omega), zI_o (by omega), zI_o (by omega)]; exact (hlk l9 h1).2.1), (by rw [zI_o (by omega), zI_o (by omega), zI_o (by omega)]; exact (hlk l9 h1).2.2.1), (by rw [zI_o (by omega), zI_o (by omega), zI_o (by omega)]; exact (hlk l9 h1).2.2.2)⟩
  · exact ⟨(by rw [zI_o (by omega), zI_o (by omega), zI_o (by omega)]; exact hpr.1), (by rw [zI_o (by omega), zI_o (by omega), zI_o (by omega)]; exact hpr.2)⟩
theorem b8_e {S : zS} {M : zM} {k l w h : Int} {a i : Nat} (q : ¬ ((3 ≤ a ∧ a ≤ 6 ∧ i = S.1 0) ∨ ((a = 9 ∨ a = 10) ∧ (i = 2 * S.1 0 ∨ i = 2 * S.1 0 + 1)))) : (zI (zI (zI (zI (zI (zI (zI (zI M 3 (S.1 0) k) 4 (S.1 0) l) 5 (S.1 0) w) 6 (S.1 0) h) 9 (2 * S.1 0) 0) 9 (2 * S.1 0 + 1) l) 10 (2 * S.1 0) (-900009)) 10 (2 * S.1 0 + 1) (-900009)).1 a i = M.1 a i := by
  rw [zI_o (by omega), zI_o (by omega), zI_o (by omega), zI_o (by omega), zI_o (by omega), zI_o (by omega), zI_o (by omega), zI_o (by omega)]
set_option maxRecDepth 20000 in
theorem RM_beam {S : zS} {M : zM} (hR : RM S M) (hO : ok S) {k l w h : Int} {N : zM} (h11 : S.1 0 < 12) (g1 : ∀ a i, a ≠ 27 → N.1 a i = (zI (zI (zI (zI (zI (zI (zI (zI M 3 (S.1 0) k) 4 (S.1 0) l) 5 (S.1 0) w) 6 (S.1 0) h) 9 (2 * S.1 0) 0) 9 (2 * S.1 0 + 1) l) 10 (2 * S.1 0) (-900009)) 10 (2 * S.1 0 + 1) (-900009)).1 a i) (g2 : ∀ i, i < 11 * S.1 0 → N.1 27 i = M.1 27 i) (g3 : ∀ t, t < 11 → N.1 27 (11 * S.1 0 + t) = 1) : RM (aBeam S k l w h) (zI N 0 2 ((S.1 0 : Int) + 1)) := by
  have h12 := hO.n
  obtain ⟨⟨n0, n1, n2, n3⟩, hk, hb, hb2, hl, hl2, hp, hp2, hw, ht, hlk, hpr⟩ := hR
  refine ⟨?_, ?_, ?_, ?_, ?_, ?_, ?_, ?_, ?_, ?_, ?_, ?_⟩
  · exact ⟨zI_same _ _ _ _, (by rw [zI_o (by omega), g1 _ _ (by omega), b8_e (by omega)]; exact n1), (by rw [zI_o (by omega), g1 _ _ (by omega), b8_e (by omega)]; exact n2), (by rw [zI_o (by omega), g1 _ _ (by omega), b8_e (by omega)]; exact n3)⟩
  · exact fun k9 h1 => ⟨(by rw [zI_o (by omega), g1 _ _ (by omega), b8_e (by omega), aBeam_o (by omega)]; exact (hk k9 h1).1), (by rw [zI_o (by omega), g1 _ _ (by omega), b8_e (by omega), aBeam_o (by omega)]; exact (hk k9 h1).2.1), (by rw [zI_o (by omega), g1 _ _ (by omega), b8_e (by omega), aBeam_o (by omega)]; exact (hk k9 h1).2.2)⟩
  · exact fun b9 h1 => by
      have h1 : b9 < S.1 0 + 1 := h1
      by_cases e : b9 = S.1 0
      · subst e
        rw [zI_o (by omega), zI_o (by omega), zI_o (by omega), zI_o (by omega), g1 _ _ (by omega), g1 _ _ (by omega), g1 _ _ (by omega), g1 _ _ (by omega)]
        refine ⟨⟨by simp [aBeam, uN, uS, zI], by simp [aBeam, uN, uS, zI], by simp [aBeam, uN, uS, zI], by simp [aBeam, uN, uS, zI]⟩, fun s9 hs => ?_⟩
        rw [zI_o (by omega), zI_o (by omega), zI_o (by omega), g1 _ _ (by omega), g1 _ _ (by omega), g1 _ _ (by omega)]
        rcases (show s9 = 0 ∨ s9 = 1 by omega) with e | e <;> subst e <;> simp [aBeam, uN, uS, zI]
      · obtain ⟨⟨q1, q2, q3, q4⟩, q5⟩ := hb b9 (by omega)
        refine ⟨⟨by rw [zI_o (by omega), g1 _ _ (by omega), b8_e (by omega), aBeam_o (by omega)]; exact q1, by rw [zI_o (by omega), g1 _ _ (by omega), b8_e (by omega), aBeam_o (by omega)]; exact q2, by rw [zI_o (by omega), g1 _ _ (by omega), b8_e (by omega), aBeam_o (by omega)]; exact q3, by rw [zI_o (by omega), g1 _ _ (by omega), b8_e (by omega), aBeam_o (by omega)]; exact q4⟩, fun s9 hs => ?_⟩
        rw [zI_o (by omega), zI_o (by omega), zI_o (by omega), g1 _ _ (by omega), g1 _ _ (by omega), g1 _ _ (by omega), b8_e (by omega), b8_e (by omega), b8_e (by omega), aBeam_o (by omega), aBeam_o (by omega), aBeam_o (by omega)]
        exact q5 s9 hs
  · exact fun b9 h1 => ⟨(by rw [zI_o (by omega), g1 _ _ (by omega), b8_e (by omega), aBeam_o (by omega)]; exact (hb2 b9 h1).1), (by rw [zI_o (by omega), g1 _ _ (by omega), b8_e (by omega), aBeam_o (by omega)]; exact (hb2 b9 h1).2)⟩
  · exact fun l9 h1 => ⟨(by rw [zI_o (by omega), g1 _ _ (by omega), b8_e (by omega), aBeam_o (by omega)]; exact (hl l9 h1).1), (by rw [zI_o (by omega), g1 _ _ (by omega), b8_e (by omega), aBeam_o (by omega)]; exact (hl l9 h1).2.1), (by rw [zI_o (by omega), g1 _ _ (by omega), b8_e (by omega), aBeam_o (by omega)]; exact (hl l9 h1).2.2)⟩
  · exact fun l9 h1 => (by rw [zI_o (by omega), g1 _ _ (by omega), b8_e (by omega), aBeam_o (by omega)]; exact hl2 l9 h1)
  · exact fun p9 h1 => ⟨(by rw [zI_o (by omega), g1 _ _ (by omega), b8_e (by omega), aBeam_o (by omega)]; exact (hp p9 h1).1), (by rw [zI_o (by omega), g1 _ _ (by omega), b8_e (by omega), aBeam_o (by omega)]; exact (hp p9 h1).2.1), (by rw [zI_o (by omega), g1 _ _ (by omega), b8_e (by omega), aBeam_o (by omega)]; exact (hp p9 h1).2.2)⟩
  · exact fun p9 h1 => (by rw [zI_o (by omega), g1 _ _ (by omega), b8_e (by omega), aBeam_o (by omega)]; exact hp2 p9 h1)
  · exact fun b9 h1 t9 h2 => by
      have h1 : b9 < S.1 0 + 1 := h1
      rw [zI_o (by omega), aBeam_o (by omega)]
      by_cases e : b9 = S.1 0
      · subst e
        rw [g3 t9 h2, (hO.2.2.2.2.1 (S.1 0) h11 (Nat.le_refl _)).2.2 t9 h2]
      · rw [g2 _ (by omega)]
        exact hw b9 (by omega) t9 h2
  · exact fun k9 h1 t9 h2 => (by rw [zI_o (by omega), g1 _ _ (by omega), b8_e (by omega), aBeam_o (by omega)]; exact ht k9 h1 t9 h2)
  · exact fun l9 h1 => ⟨(by rw [zI_o (by omega), g1 _ _ (by omega), b8_e (by omega), aBeam_o (by omega)]; exact (hlk l9 h1).1), (by rw [zI_o (by omega), g1 _ _ (by omega), b8_e (by omega), aBeam_o (by omega)]; exact (hlk l9 h1).2.1), (by rw [zI_o (by omega), g1 _ _ (by omega), b8_e (by omega), aBeam_o (by omega)]; exact (hlk l9 h1).2.2.1), (by rw [zI_o (by omega), g1 _ _ (by omega), b8_e (by omega), aBeam_o (by omega)]; exact (hlk l9 h1).2.2.2)⟩
  · exact ⟨(by rw [zI_o (by omega), g1 _ _ (by omega), b8_e (by omega), aBeam_o (by omega)]; exact hpr.1), (by rw [zI_o (by omega), g1 _ _ (by omega), b8_e (by omega), aBeam_o (by omega)]; exact hpr.2)⟩
set_option maxRecDepth 20000 in
theorem RM_load {S : zS} {M : zM} (hR : RM S M) (hO : ok S) {b p v : Int} (h11 : S.1 1 < 40) : RM (aLoad S b p v) (zI (zI (zI (zI M 12 (S.1 1) b) 13 (S.1 1) p) 14 (S.1 1) v) 0 12 ((S.1 1 : Int) + 1)) := by
  have h12 := hO.n
  obtain ⟨⟨n0, n1, n2, n3⟩, hk, hb, hb2, hl, hl2, hp, hp2, hw, ht, hlk, hpr⟩ := hR
  refine ⟨?_, ?_, ?_, ?_, ?_, ?_, ?_, ?_, ?_, ?_, ?_, ?_⟩
  · exact ⟨(by rw [zI_o (by omega), zI_o (by omega), zI_o (by omega), zI_o (by omega)]; exact n0), zI_same _ _ _ _, (by rw [zI_o (by omega), zI_o (by omega), zI_o (by omega), zI_o (by omega)]; exact n2), (by rw [zI_o (by omega), zI_o (by omega), zI_o (by omega), zI_o (by omega)]; exact n3)⟩
  · exact fun k9 h1 => ⟨(by rw [zI_o (by omega), zI_o (by omega), zI_o (by omega), zI_o (by omega)]; exact (hk k9 h1).1), (by rw [zI_o (by omega), zI_o (by omega), zI_o (by omega), zI_o (by omega)]; exact (hk k9 h1).2.1), (by rw [zI_o (by omega), zI_o (by omega), zI_o (by omega), zI_o (by omega)]; exact (hk k9 h1).2.2)⟩
  · exact fun b9 h1 => ⟨⟨(by rw [zI_o (by omega), zI_o (by omega), zI_o (by omega), zI_o (by omega)]; exact (hb b9 h1).1.1), (by rw [zI_o (by omega), zI_o (by omega), zI_o (by omega), zI_o (by omega)]; exact (hb b9 h1).1.2.1), (by rw [zI_o (by omega), zI_o (by omega), zI_o (by omega), zI_o (by omega)]; exact (hb b9 h1).1.2.2.1), (by rw [zI_o (by omega), zI_o (by omega), zI_o (by omega), zI_o (by omega)]; exact (hb b9 h1).1.2.2.2)⟩, fun s9 hs => ⟨(by rw [zI_o (by omega), zI_o (by omega), zI_o (by omega), zI_o (by omega)]; exact ((hb b9 h1).2 s9 hs).1), (by rw [zI_o (by omega), zI_o (by omega), zI_o (by omega), zI_o (by omega)]; exact ((hb b9 h1).2 s9 hs).2.1), fun e => (by rw [zI_o (by omega), zI_o (by omega), zI_o (by omega), zI_o (by omega)]; exact ((hb b9 h1).2 s9 hs).2.2 e)⟩⟩
  · exact fun b9 h1 => ⟨(by rw [zI_o (by omega), zI_o (by omega), zI_o (by omega), zI_o (by omega)]; exact (hb2 b9 h1).1), (by rw [zI_o (by omega), zI_o (by omega), zI_o (by omega), zI_o (by omega)]; exact (hb2 b9 h1).2)⟩
  · exact fun l9 h1 => by
      have h1 : l9 < S.1 1 + 1 := h1
      by_cases e : l9 = S.1 1
      · subst e
        simp [aLoad, uN, uS, zI]
      · have q := hl l9 (by omega)
        simp [aLoad, uN, uS, zI, e]
        exact q
  · exact fun l9 h1 => by
      rw [zI_o (by omega), zI_o (by omega), zI_o (by omega), zI_o (by omega), hl2 l9 h1]
      show _ = if l9 < S.1 1 + 1 then 1 - (aLoad S b p v).2 6 l9 3 else 0
      by_cases e : l9 = S.1 1
      · subst e
        rw [if_neg (by omega), if_pos (by omega), show (aLoad S b p v).2 6 (S.1 1) 3 = 1 by simp [aLoad, uN, uS]]; rfl
      · rw [show (aLoad S b p v).2 6 l9 3 = S.2 6 l9 3 by simp [aLoad, uN, uS, e]]
        by_cases z : l9 < S.1 1
        · rw [if_pos z, if_pos (by omega)]
        · rw [if_neg z, if_neg (by omega)]
  · exact fun p9 h1 => ⟨(by rw [zI_o (by omega), zI_o (by omega), zI_o (by omega), zI_o (by omega)]; exact (hp p9 h1).1), (by rw [zI_o (by omega), zI_o (by omega), zI_o (by omega), zI_o (by omega)]; exact (hp p9 h1).2.1), (by rw [zI_o (by omega), zI_o (by omega), zI_o (by omega), zI_o (by omega)]; exact (hp p9 h1).2.2)⟩
  · exact fun p9 h1 => (by rw [zI_o (by omega), zI_o (by omega), zI_o (by omega), zI_o (by omega)]; exact hp2 p9 h1)
  · exact fun b9 h1 t9 h2 => (by rw [zI_o (by omega), zI_o (by omega), zI_o (by omega), zI_o (by omega)]; exact hw b9 h1 t9 h2)
  · exact fun k9 h1 t9 h2 => (by rw [zI_o (by omega), zI_o (by omega), zI_o (by omega), zI_o (by omega)]; exact ht k9 h1 t9 h2)
  · exact fun l9 h1 => ⟨(by rw [zI_o (by omega), zI_o (by omega), zI_o (by omega), zI_o (by omega)]; exact (hlk l9 h1).1), (by rw [zI_o (by omega), zI_o (by omega), zI_o (by omega), zI_o (by omega)]; exact (hlk l9 h1).2.1), (by rw [zI_o (by omega), zI_o (by omega), zI_o (by omega), zI_o (by omega)]; exact (hlk l9 h1).2.2.1), (by rw [zI_o (by omega), zI_o (by omega), zI_o (by omega), zI_o (by omega)]; exact (hlk l9 h1).2.2.2)⟩
  · exact ⟨(by rw [zI_o (by omega), zI_o (by omega), zI_o (by omega), zI_o (by omega)]; exact hpr.1), (by rw [zI_o (by omega), zI_o (by omega), zI_o (by omega), zI_o (by omega)]; exact hpr.2)⟩
set_option maxRecDepth 20000 in
theorem RM_off {S : zS} {M : zM} (hR : RM S M) (hO : ok S) {w : Nat} (h11 : w < S.1 1) : RM (uS S 6 w 3 0) (zI M 15 w 1) := by
  have h12 := hO.n
  obtain ⟨⟨n0, n1, n2, n3⟩, hk, hb, hb2, hl, hl2, hp, hp2, hw, ht, hlk, hpr⟩ := hR
  refine ⟨?_, ?_, ?_, ?_, ?_, ?_, ?_, ?_, ?_, ?_, ?_, ?_⟩
  · exact ⟨(by rw [zI_o (by omega)]; exact n0), (by rw [zI_o (by omega)]; exact n1), (by rw [zI_o (by omega)]; exact n2), (by rw [zI_o (by omega)]; exact n3)⟩
  · exact fun k9 h1 => ⟨(by rw [zI_o (by omega)]; exact (hk k9 h1).1), (by rw [zI_o (by omega)]; exact (hk k9 h1).2.1), (by rw [zI_o (by omega)]; exact (hk k9 h1).2.2)⟩
  · exact fun b9 h1 => ⟨⟨(by rw [zI_o (by omega)]; exact (hb b9 h1).1.1), (by rw [zI_o (by omega)]; exact (hb b9 h1).1.2.1), (by rw [zI_o (by omega)]; exact (hb b9 h1).1.2.2.1), (by rw [zI_o (by omega)]; exact (hb b9 h1).1.2.2.2)⟩, fun s9 hs => ⟨(by rw [zI_o (by omega)]; exact ((hb b9 h1).2 s9 hs).1), (by rw [zI_o (by omega)]; exact ((hb b9 h1).2 s9 hs).2.1), fun e => (by rw [zI_o (by omega)]; exact ((hb b9 h1).2 s9 hs).2.2 e)⟩⟩
  · exact fun b9 h1 => ⟨(by rw [zI_o (by omega)]; exact (hb2 b9 h1).1), (by rw [zI_o (by omega)]; exact (hb2 b9 h1).2)⟩
  · exact fun l9 h1 => ⟨(by rw [zI_o (by omega), uS_o (by omega)]; exact (hl l9 h1).1), (by rw [zI_o (by omega), uS_o (by omega)]; exact (hl l9 h1).2.1), (by rw [zI_o (by omega), uS_o (by omega)]; exact (hl l9 h1).2.2)⟩
  · exact fun l9 h1 => by
      rw [zI_at, uS_at, hl2 l9 h1]
      show _ = if l9 < S.1 1 then _ else _
      by_cases e : l9 = w
      · rw [if_pos ⟨rfl, e⟩, if_pos (by omega), if_pos ⟨rfl, e, rfl⟩]; rfl
      · rw [if_neg (fun z => e z.2), if_neg (show ¬ (6 = 6 ∧ l9 = w ∧ 3 = 3) from fun z => e z.2.1)]
  · exact fun p9 h1 => ⟨(by rw [zI_o (by omega)]; exact (hp p9 h1).1), (by rw [zI_o (by omega)]; exact (hp p9 h1).2.1), (by rw [zI_o (by omega)]; exact (hp p9 h1).2.2)⟩
  · exact fun p9 h1 => (by rw [zI_o (by omega)]; exact hp2 p9 h1)
  · exact fun b9 h1 t9 h2 => (by rw [zI_o (by omega)]; exact hw b9 h1 t9 h2)
  · exact fun k9 h1 t9 h2 => (by rw [zI_o (by omega)]; exact ht k9 h1 t9 h2)
  · exact fun l9 h1 => ⟨(by rw [zI_o (by omega)]; exact (hlk l9 h1).1), (by rw [zI_o (by omega)]; exact (hlk l9 h1).2.1), (by rw [zI_o (by omega)]; exact (hlk l9 h1).2.2.1), (by rw [zI_o (by omega)]; exact (hlk l9 h1).2.2.2)⟩
  · exact ⟨(by rw [zI_o (by omega)]; exact hpr.1), (by rw [zI_o (by omega)]; exact hpr.2)⟩
set_option maxRecDepth 20000 in
theorem RM_prop {S : zS} {M : zM} (hR : RM S M) (hO : ok S) {b p v : Int} (h11 : S.1 3 < 8) : RM (aProp S b p v) (zI (zI (zI (zI M 16 (S.1 3) b) 17 (S.1 3) p) 18 (S.1 3) v) 0 17 ((S.1 3 : Int) + 1)) := by
  have h12 := hO.n
  obtain ⟨⟨n0, n1, n2, n3⟩, hk, hb, hb2, hl, hl2, hp, hp2, hw, ht, hlk, hpr⟩ := hR
  refine ⟨?_, ?_, ?_, ?_, ?_, ?_, ?_, ?_, ?_, ?_, ?_, ?_⟩
  · exact ⟨(by rw [zI_o (by omega), zI_o (by omega), zI_o (by omega), zI_o (by omega)]; exact n0), (by rw [zI_o (by omega), zI_o (by omega), zI_o (by omega), zI_o (by omega)]; exact n1), (by rw [zI_o (by omega), zI_o (by omega), zI_o (by omega), zI_o (by omega)]; exact n2), zI_same _ _ _ _⟩
  · exact fun k9 h1 => ⟨(by rw [zI_o (by omega), zI_o (by omega), zI_o (by omega), zI_o (by omega)]; exact (hk k9 h1).1), (by rw [zI_o (by omega), zI_o (by omega), zI_o (by omega), zI_o (by omega)]; exact (hk k9 h1).2.1), (by rw [zI_o (by omega), zI_o (by omega), zI_o (by omega), zI_o (by omega)]; exact (hk k9 h1).2.2)⟩
  · exact fun b9 h1 => ⟨⟨(by rw [zI_o (by omega), zI_o (by omega), zI_o (by omega), zI_o (by omega)]; exact (hb b9 h1).1.1), (by rw [zI_o (by omega), zI_o (by omega), zI_o (by omega), zI_o (by omega)]; exact (hb b9 h1).1.2.1), (by rw [zI_o (by omega), zI_o (by omega), zI_o (by omega), zI_o (by omega)]; exact (hb b9 h1).1.2.2.1), (by rw [zI_o (by omega), zI_o (by omega), zI_o (by omega), zI_o (by omega)]; exact (hb b9 h1).1.2.2.2)⟩, fun s9 hs => ⟨(by rw [zI_o (by omega), zI_o (by omega), zI_o (by omega), zI_o (by omega)]; exact ((hb b9 h1).2 s9 hs).1), (by rw [zI_o (by omega), zI_o (by omega), zI_o (by omega), zI_o (by omega)]; exact ((hb b9 h1).2 s9 hs).2.1), fun e => (by rw [zI_o (by omega), zI_o (by omega), zI_o (by omega), zI_o (by omega)]; exact ((hb b9 h1).2 s9 hs).2.2 e)⟩⟩
  · exact fun b9 h1 => ⟨(by rw [zI_o (by omega), zI_o (by omega), zI_o (by omega), zI_o (by omega)]; exact (hb2 b9 h1).1), (by rw [zI_o (by omega), zI_o (by omega), zI_o (by omega), zI_o (by omega)]; exact (hb2 b9 h1).2)⟩
  · exact fun l9 h1 => ⟨(by rw [zI_o (by omega), zI_o (by omega), zI_o (by omega), zI_o (by omega)]; exact (hl l9 h1).1), (by rw [zI_o (by omega), zI_o (by omega), zI_o (by omega), zI_o (by omega)]; exact (hl l9 h1).2.1), (by rw [zI_o (by omega), zI_o (by omega), zI_o (by omega), zI_o (by omega)]; exact (hl l9 h1).2.2)⟩
  · exact fun l9 h1 => (by rw [zI_o (by omega), zI_o (by omega), zI_o (by omega), zI_o (by omega)]; exact hl2 l9 h1)
  · exact fun l9 h1 => by
      have h1 : l9 < S.1 3 + 1 := h1
      by_cases e : l9 = S.1 3
      · subst e
        simp [aProp, uN, uS, zI]
      · have q := hp l9 (by omega)
        simp [aProp, uN, uS, zI, e]
        exact q
  · exact fun p9 h1 => (by rw [zI_o (by omega), zI_o (by omega), zI_o (by omega), zI_o (by omega), show (aProp S b p v).2 7 p9 3 = S.2 7 p9 3 by simp [aProp, uN, uS]]; exact hp2 p9 h1)
  · exact fun b9 h1 t9 h2 => (by rw [zI_o (by omega), zI_o (by omega), zI_o (by omega), zI_o (by omega)]; exact hw b9 h1 t9 h2)
  · exact fun k9 h1 t9 h2 => (by rw [zI_o (by omega), zI_o (by omega), zI_o (by omega), zI_o (by omega)]; exact ht k9 h1 t9 h2)
  · exact fun l9 h1 => ⟨(by rw [zI_o (by omega), zI_o (by omega), zI_o (by omega), zI_o (by omega)]; exact (hlk l9 h1).1), (by rw [zI_o (by omega), zI_o (by omega), zI_o (by omega), zI_o (by omega)]; exact (hlk l9 h1).2.1), (by rw [zI_o (by omega), zI_o (by omega), zI_o (by omega), zI_o (by omega)]; exact (hlk l9 h1).2.2.1), (by rw [zI_o (by omega), zI_o (by omega), zI_o (by omega), zI_o (by omega)]; exact (hlk l9 h1).2.2.2)⟩
  · exact ⟨(by rw [zI_o (by omega), zI_o (by omega), zI_o (by omega), zI_o (by omega)]; exact hpr.1), (by rw [zI_o (by omega), zI_o (by omega), zI_o (by omega), zI_o (by omega)]; exact hpr.2)⟩
set_option maxRecDepth 20000 in
theorem RM_set {S : zS} {M : zM} (hR : RM S M) (hO : ok S) {p : Nat} {z : Int} (h4 : p < 8) : RM (uS S 7 p 3 z) (zI M 19 p z) := by
  have h12 := hO.n
  obtain ⟨⟨n0, n1, n2, n3⟩, hk, hb, hb2, hl, hl2, hp, hp2, hw, ht, hlk, hpr⟩ := hR
  refine ⟨?_, ?_, ?_, ?_, ?_, ?_, ?_, ?_, ?_, ?_, ?_, ?_⟩
  · exact ⟨(by rw [zI_o (by omega)]; exact n0), (by rw [zI_o (by omega)]; exact n1), (by rw [zI_o (by omega)]; exact n2), (by rw [zI_o (by omega)]; exact n3)⟩
  · exact fun k9 h1 => ⟨(by rw [zI_o (by omega)]; exact (hk k9 h1).1), (by rw [zI_o (by omega)]; exact (hk k9 h1).2.1), (by rw [zI_o (by omega)]; exact (hk k9 h1).2.2)⟩
  · exact fun b9 h1 => ⟨⟨(by rw [zI_o (by omega)]; exact (hb b9 h1).1.1), (by rw [zI_o (by omega)]; exact (hb b9 h1).1.2.1), (by rw [zI_o (by omega)]; exact (hb b9 h1).1.2.2.1), (by rw [zI_o (by omega)]; exact (hb b9 h1).1.2.2.2)⟩, fun s9 hs => ⟨(by rw [zI_o (by omega)]; exact ((hb b9 h1).2 s9 hs).1), (by rw [zI_o (by omega)]; exact ((hb b9 h1).2 s9 hs).2.1), fun e => (by rw [zI_o (by omega)]; exact ((hb b9 h1).2 s9 hs).2.2 e)⟩⟩
  · exact fun b9 h1 => ⟨(by rw [zI_o (by omega)]; exact (hb2 b9 h1).1), (by rw [zI_o (by omega)]; exact (hb2 b9 h1).2)⟩
  · exact fun l9 h1 => ⟨(by rw [zI_o (by omega)]; exact (hl l9 h1).1), (by rw [zI_o (by omega)]; exact (hl l9 h1).2.1), (by rw [zI_o (by omega)]; exact (hl l9 h1).2.2)⟩
  · exact fun l9 h1 => (by rw [zI_o (by omega)]; exact hl2 l9 h1)
  · exact fun p9 h1 => ⟨(by rw [zI_o (by omega), uS_o (by omega)]; exact (hp p9 h1).1), (by rw [zI_o (by omega), uS_o (by omega)]; exact (hp p9 h1).2.1), (by rw [zI_o (by omega), uS_o (by omega)]; exact (hp p9 h1).2.2)⟩
  · exact fun p9 h1 => (by rw [zI_at, uS_at]; exact ite2 (by omega) (hp2 p9 h1))
  · exact fun b9 h1 t9 h2 => (by rw [zI_o (by omega)]; exact hw b9 h1 t9 h2)
  · exact fun k9 h1 t9 h2 => (by rw [zI_o (by omega)]; exact ht k9 h1 t9 h2)
  · exact fun l9 h1 => ⟨(by rw [zI_o (by omega)]; exact (hlk l9 h1).1), (by rw [zI_o (by omega)]; exact (hlk l9 h1).2.1), (by rw [zI_o (by omega)]; exact (hlk l9 h1).2.2.1), (by rw [zI_o (by omega)]; exact (hlk l9 h1).2.2.2)⟩
  · exact ⟨(by rw [zI_o (by omega)]; exact hpr.1), (by rw [zI_o (by omega)]; exact hpr.2)⟩
set_option maxRecDepth 20000 in
theorem RM_weight {S : zS} {M : zM} (hR : RM S M) (hO : ok S) {b t : Nat} {v : Int} (h4 : b < 12) (h3 : t < 11) : RM (uS S 8 b t v) (zI M 27 (11 * b + t) v) := by
  have h12 := hO.n
  obtain ⟨⟨n0, n1, n2, n3⟩, hk, hb, hb2, hl, hl2, hp, hp2, hw, ht, hlk, hpr⟩ := hR
  refine ⟨?_, ?_, ?_, ?_, ?_, ?_, ?_, ?_, ?_, ?_, ?_, ?_⟩
  · exact ⟨(by rw [zI_o (by omega)]; exact n0), (by rw [zI_o (by omega)]; exact n1), (by rw [zI_o (by omega)]; exact n2), (by rw [zI_o (by omega)]; exact n3)⟩
  · exact fun k9 h1 => ⟨(by rw [zI_o (by omega)]; exact (hk k9 h1).1), (by rw [zI_o (by omega)]; exact (hk k9 h1).2.1), (by rw [zI_o (by omega)]; exact (hk k9 h1).2.2)⟩
  · exact fun b9 h1 => ⟨⟨(by rw [zI_o (by omega)]; exact (hb b9 h1).1.1), (by rw [zI_o (by omega)]; exact (hb b9 h1).1.2.1), (by rw [zI_o (by omega)]; exact (hb b9 h1).1.2.2.1), (by rw [zI_o (by omega)]; exact (hb b9 h1).1.2.2.2)⟩, fun s9 hs => ⟨(by rw [zI_o (by omega)]; exact ((hb b9 h1).2 s9 hs).1), (by rw [zI_o (by omega)]; exact ((hb b9 h1).2 s9 hs).2.1), fun e => (by rw [zI_o (by omega)]; exact ((hb b9 h1).2 s9 hs).2.2 e)⟩⟩
  · exact fun b9 h1 => ⟨(by rw [zI_o (by omega)]; exact (hb2 b9 h1).1), (by rw [zI_o (by omega)]; exact (hb2 b9 h1).2)⟩
  · exact fun l9 h1 => ⟨(by rw [zI_o (by omega)]; exact (hl l9 h1).1), (by rw [zI_o (by omega)]; exact (hl l9 h1).2.1), (by rw [zI_o (by omega)]; exact (hl l9 h1).2.2)⟩
  · exact fun l9 h1 => (by rw [zI_o (by omega)]; exact hl2 l9 h1)
  · exact fun p9 h1 => ⟨(by rw [zI_o (by omega)]; exact (hp p9 h1).1), (by rw [zI_o (by omega)]; exact (hp p9 h1).2.1), (by rw [zI_o (by omega)]; exact (hp p9 h1).2.2)⟩
  · exact fun p9 h1 => (by rw [zI_o (by omega)]; exact hp2 p9 h1)
  · exact fun b9 h1 t9 h2 => (by rw [zI_at, uS_at]; exact ite2 (by omega) (hw b9 h1 t9 h2))
  · exact fun k9 h1 t9 h2 => (by rw [zI_o (by omega)]; exact ht k9 h1 t9 h2)
  · exact fun l9 h1 => ⟨(by rw [zI_o (by omega)]; exact (hlk l9 h1).1), (by rw [zI_o (by omega)]; exact (hlk l9 h1).2.1), (by rw [zI_o (by omega)]; exact (hlk l9 h1).2.2.1), (by rw [zI_o (by omega)]; exact (hlk l9 h1).2.2.2)⟩
  · exact ⟨(by rw [zI_o (by omega)]; exact hpr.1), (by rw [zI_o (by omega)]; exact hpr.2)⟩
set_option maxRecDepth 20000 in
theorem RM_tool {S : zS} {M : zM} (hR : RM S M) (hO : ok S) {k t : Nat} {v : Int} (h4 : k < 4) (h3 : t < 11) : RM (uS S 9 k t v) (zI M 28 (11 * k + t) v) := by
  have h12 := hO.n
  obtain ⟨⟨n0, n1, n2, n3⟩, hk, hb, hb2, hl, hl2, hp, hp2, hw, ht, hlk, hpr⟩ := hR
  refine ⟨?_, ?_, ?_, ?_, ?_, ?_, ?_, ?_, ?_, ?_, ?_, ?_⟩
  · exact ⟨(by rw [zI_o (by omega)]; exact n0), (by rw [zI_o (by omega)]; exact n1), (by rw [zI_o (by omega)]; exact n2), (by rw [zI_o (by omega)]; exact n3)⟩
  · exact fun k9 h1 => ⟨(by rw [zI_o (by omega)]; exact (hk k9 h1).1), (by rw [zI_o (by omega)]; exact (hk k9 h1).2.1), (by rw [zI_o (by omega)]; exact (hk k9 h1).2.2)⟩
  · exact fun b9 h1 => ⟨⟨(by rw [zI_o (by omega)]; exact (hb b9 h1).1.1), (by rw [zI_o (by omega)]; exact (hb b9 h1).1.2.1), (by rw [zI_o (by omega)]; exact (hb b9 h1).1.2.2.1), (by rw [zI_o (by omega)]; exact (hb b9 h1).1.2.2.2)⟩, fun s9 hs => ⟨(by rw [zI_o (by omega)]; exact ((hb b9 h1).2 s9 hs).1), (by rw [zI_o (by omega)]; exact ((hb b9 h1).2 s9 hs).2.1), fun e => (by rw [zI_o (by omega)]; exact ((hb b9 h1).2 s9 hs).2.2 e)⟩⟩
  · exact fun b9 h1 => ⟨(by rw [zI_o (by omega)]; exact (hb2 b9 h1).1), (by rw [zI_o (by omega)]; exact (hb2 b9 h1).2)⟩
  · exact fun l9 h1 => ⟨(by rw [zI_o (by omega)]; exact (hl l9 h1).1), (by rw [zI_o (by omega)]; exact (hl l9 h1).2.1), (by rw [zI_o (by omega)]; exact (hl l9 h1).2.2)⟩
  · exact fun l9 h1 => (by rw [zI_o (by omega)]; exact hl2 l9 h1)
  · exact fun p9 h1 => ⟨(by rw [zI_o (by omega)]; exact (hp p9 h1).1), (by rw [zI_o (by omega)]; exact (hp p9 h1).2.1), (by rw [zI_o (by omega)]; exact (hp p9 h1).2.2)⟩
  · exact fun p9 h1 => (by rw [zI_o (by omega)]; exact hp2 p9 h1)
  · exact fun b9 h1 t9 h2 => (by rw [zI_o (by omega)]; exact hw b9 h1 t9 h2)
  · exact fun k9 h1 t9 h2 => (by rw [zI_at, uS_at]; exact ite2 (by omega) (ht k9 h1 t9 h2))
  · exact fun l9 h1 => ⟨(by rw [zI_o (by omega)]; exact (hlk l9 h1).1), (by rw [zI_o (by omega)]; exact (hlk l9 h1).2.1), (by rw [zI_o (by omega)]; exact (hlk l9 h1).2.2.1), (by rw [zI_o (by omega)]; exact (hlk l9 h1).2.2.2)⟩
  · exact ⟨(by rw [zI_o (by omega)]; exact hpr.1), (by rw [zI_o (by omega)]; exact hpr.2)⟩
set_option maxRecDepth 20000 in
theorem RM_look {S : zS} {M : zM} (hR : RM S M) (hO : ok S) {b k oc y : Int} (h11 : S.1 2 < 60) : RM (aLook S b k oc y) (zI (zI (zI (zI (zI M 29 (S.1 2) b) 30 (S.1 2) k) 31 (S.1 2) oc) 32 (S.1 2) y) 0 31 ((S.1 2 : Int) + 1)) := by
  have h12 := hO.n
  obtain ⟨⟨n0, n1, n2, n3⟩, hk, hb, hb2, hl, hl2, hp, hp2, hw, ht, hlk, hpr⟩ := hR
  refine ⟨?_, ?_, ?_, ?_, ?_, ?_, ?_, ?_, ?_, ?_, ?_, ?_⟩
  · exact ⟨(by rw [zI_o (by omega), zI_o (by omega), zI_o (by omega), zI_o (by omega), zI_o (by omega)]; exact n0), (by rw [zI_o (by omega), zI_o (by omega), zI_o (by omega), zI_o (by omega), zI_o (by omega)]; exact n1), zI_same _ _ _ _, (by rw [zI_o (by omega), zI_o (by omega), zI_o (by omega), zI_o (by omega), zI_o (by omega)]; exact n3)⟩
  · exact fun k9 h1 => ⟨(by rw [zI_o (by omega), zI_o (by omega), zI_o (by omega), zI_o (by omega), zI_o (by omega)]; exact (hk k9 h1).1), (by rw [zI_o (by omega), zI_o (by omega), zI_o (by omega), zI_o (by omega), zI_o (by omega)]; exact (hk k9 h1).2.1), (by rw [zI_o (by omega), zI_o (by omega), zI_o (by omega), zI_o (by omega), zI_o (by omega)]; exact (hk k9 h1).2.2)⟩
  · exact fun b9 h1 => ⟨⟨(by rw [zI_o (by omega), zI_o (by omega), zI_o (by omega), zI_o (by omega), zI_o (by omega)]; exact (hb b9 h1).1.1), (by rw [zI_o (by omega), zI_o (by omega), zI_o (by omega), zI_o (by omega), zI_o (by omega)]; exact (hb b9 h1).1.2.1), (by rw [zI_o (by omega), zI_o (by omega), zI_o (by omega), zI_o (by omega), zI_o (by omega)]; exact (hb b9 h1).1.2.2.1), (by rw [zI_o (by omega), zI_o (by omega), zI_o (by omega), zI_o (by omega), zI_o (by omega)]; exact (hb b9 h1).1.2.2.2)⟩, fun s9 hs => ⟨(by rw [zI_o (by omega), zI_o (by omega), zI_o (by omega), zI_o (by omega), zI_o (by omega)]; exact ((hb b9 h1).2 s9 hs).1), (by rw [zI_o (by omega), zI_o (by omega), zI_o (by omega), zI_o (by omega), zI_o (by omega)]; exact ((hb b9 h1).2 s9 hs).2.1), fun e => (by rw [zI_o (by omega), zI_o (by omega), zI_o (by omega), zI_o (by omega), zI_o (by omega)]; exact ((hb b9 h1).2 s9 hs).2.2 e)⟩⟩
  · exact fun b9 h1 => ⟨(by rw [zI_o (by omega), zI_o (by omega), zI_o (by omega), zI_o (by omega), zI_o (by omega)]; exact (hb2 b9 h1).1), (by rw [zI_o (by omega), zI_o (by omega), zI_o (by omega), zI_o (by omega), zI_o (by omega)]; exact (hb2 b9 h1).2)⟩
  · exact fun l9 h1 => ⟨(by rw [zI_o (by omega), zI_o (by omega), zI_o (by omega), zI_o (by omega), zI_o (by omega)]; exact (hl l9 h1).1), (by rw [zI_o (by omega), zI_o (by omega), zI_o (by omega), zI_o (by omega), zI_o (by omega)]; exact (hl l9 h1).2.1), (by rw [zI_o (by omega), zI_o (by omega), zI_o (by omega), zI_o (by omega), zI_o (by omega)]; exact (hl l9 h1).2.2)⟩
  · exact fun l9 h1 => (by rw [zI_o (by omega), zI_o (by omega), zI_o (by omega), zI_o (by omega), zI_o (by omega)]; exact hl2 l9 h1)
  · exact fun p9 h1 => ⟨(by rw [zI_o (by omega), zI_o (by omega), zI_o (by omega), zI_o (by omega), zI_o (by omega)]; exact (hp p9 h1).1), (by rw [zI_o (by omega), zI_o (by omega), zI_o (by omega), zI_o (by omega), zI_o (by omega)]; exact (hp p9 h1).2.1), (by rw [zI_o (by omega), zI_o (by omega), zI_o (by omega), zI_o (by omega), zI_o (by omega)]; exact (hp p9 h1).2.2)⟩
  · exact fun p9 h1 => (by rw [zI_o (by omega), zI_o (by omega), zI_o (by omega), zI_o (by omega), zI_o (by omega)]; exact hp2 p9 h1)
  · exact fun b9 h1 t9 h2 => (by rw [zI_o (by omega), zI_o (by omega), zI_o (by omega), zI_o (by omega), zI_o (by omega)]; exact hw b9 h1 t9 h2)
  · exact fun k9 h1 t9 h2 => (by rw [zI_o (by omega), zI_o (by omega), zI_o (by omega), zI_o (by omega), zI_o (by omega)]; exact ht k9 h1 t9 h2)
  · exact fun l9 h1 => by
      have h1 : l9 < S.1 2 + 1 := h1
      by_cases e : l9 = S.1 2
      · subst e
        simp [aLook, uN, uS, zI]
      · have q := hlk l9 (by omega)
        simp [aLook, uN, uS, zI, e]
        exact q
  · exact ⟨(by rw [zI_o (by omega), zI_o (by omega), zI_o (by omega), zI_o (by omega), zI_o (by omega)]; exact hpr.1), (by rw [zI_o (by omega), zI_o (by omega), zI_o (by omega), zI_o (by omega), zI_o (by omega)]; exact hpr.2)⟩
set_option maxRecDepth 20000 in
theorem RM_price {S : zS} {M : zM} (hR : RM S M) (hO : ok S) {w : Int} {v : Int} (h4 : w = 0 ∨ w = 1) : RM (uS S 11 w.toNat 0 v) (zI (zI M 0 43 (if w = 0 then v else M.1 0 43)) 0 44 (if w = 1 then v else M.1 0 44)) := by
  have h12 := hO.n
  obtain ⟨⟨n0, n1, n2, n3⟩, hk, hb, hb2, hl, hl2, hp, hp2, hw, ht, hlk, hpr⟩ := hR
  refine ⟨?_, ?_, ?_, ?_, ?_, ?_, ?_, ?_, ?_, ?_, ?_, ?_⟩
  · exact ⟨(by rw [zI_o (by omega), zI_o (by omega)]; exact n0), (by rw [zI_o (by omega), zI_o (by omega)]; exact n1), (by rw [zI_o (by omega), zI_o (by omega)]; exact n2), (by rw [zI_o (by omega), zI_o (by omega)]; exact n3)⟩
  · exact fun k9 h1 => ⟨(by rw [zI_o (by omega), zI_o (by omega)]; exact (hk k9 h1).1), (by rw [zI_o (by omega), zI_o (by omega)]; exact (hk k9 h1).2.1), (by rw [zI_o (by omega), zI_o (by omega)]; exact (hk k9 h1).2.2)⟩
  · exact fun b9 h1 => ⟨⟨(by rw [zI_o (by omega), zI_o (by omega)]; exact (hb b9 h1).1.1), (by rw [zI_o (by omega), zI_o (by omega)]; exact (hb b9 h1).1.2.1), (by rw [zI_o (by omega), zI_o (by omega)]; exact (hb b9 h1).1.2.2.1), (by rw [zI_o (by omega), zI_o (by omega)]; exact (hb b9 h1).1.2.2.2)⟩, fun s9 hs => ⟨(by rw [zI_o (by omega), zI_o (by omega)]; exact ((hb b9 h1).2 s9 hs).1), (by rw [zI_o (by omega), zI_o (by omega)]; exact ((hb b9 h1).2 s9 hs).2.1), fun e => (by rw [zI_o (by omega), zI_o (by omega)]; exact ((hb b9 h1).2 s9 hs).2.2 e)⟩⟩
  · exact fun b9 h1 => ⟨(by rw [zI_o (by omega), zI_o (by omega)]; exact (hb2 b9 h1).1), (by rw [zI_o (by omega), zI_o (by omega)]; exact (hb2 b9 h1).2)⟩
  · exact fun l9 h1 => ⟨(by rw [zI_o (by omega), zI_o (by omega)]; exact (hl l9 h1).1), (by rw [zI_o (by omega), zI_o (by omega)]; exact (hl l9 h1).2.1), (by rw [zI_o (by omega), zI_o (by omega)]; exact (hl l9 h1).2.2)⟩
  · exact fun l9 h1 => (by rw [zI_o (by omega), zI_o (by omega)]; exact hl2 l9 h1)
  · exact fun p9 h1 => ⟨(by rw [zI_o (by omega), zI_o (by omega)]; exact (hp p9 h1).1), (by rw [zI_o (by omega), zI_o (by omega)]; exact (hp p9 h1).2.1), (by rw [zI_o (by omega), zI_o (by omega)]; exact (hp p9 h1).2.2)⟩
  · exact fun p9 h1 => (by rw [zI_o (by omega), zI_o (by omega)]; exact hp2 p9 h1)
  · exact fun b9 h1 t9 h2 => (by rw [zI_o (by omega), zI_o (by omega)]; exact hw b9 h1 t9 h2)
  · exact fun k9 h1 t9 h2 => (by rw [zI_o (by omega), zI_o (by omega)]; exact ht k9 h1 t9 h2)
  · exact fun l9 h1 => ⟨(by rw [zI_o (by omega), zI_o (by omega)]; exact (hlk l9 h1).1), (by rw [zI_o (by omega), zI_o (by omega)]; exact (hlk l9 h1).2.1), (by rw [zI_o (by omega), zI_o (by omega)]; exact (hlk l9 h1).2.2.1), (by rw [zI_o (by omega), zI_o (by omega)]; exact (hlk l9 h1).2.2.2)⟩
  · exact (by
      rw [zI_o (by omega), zI_same, zI_same]
      rcases h4 with e | e <;> subst e
      · rw [if_pos rfl, if_neg (by decide)]
        exact ⟨by simp [uS], by rw [uS_o (by decide)]; exact hpr.2⟩
      · rw [if_neg (by decide), if_pos rfl]
        exact ⟨by rw [uS_o (by decide)]; exact hpr.1, by simp [uS]⟩)
