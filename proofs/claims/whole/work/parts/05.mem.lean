theorem fsO_at {E : zE} {I : Nat → Int} {J : Nat → Int64} {ds : List (Nat × Nat)} {i : Nat} {d : Nat × Nat} (h : ds[i]? = some d) : (fsO E I J ds)[i]? = some (fv E I J d i) := by
  have hl : i < ds.length := (List.getElem?_eq_some_iff.mp h).1
  unfold fsO
  rw [List.getElem?_map, List.getElem?_range hl]
  simp [List.getD, h]
theorem fsO_len {E : zE} {I : Nat → Int} {J : Nat → Int64} {ds : List (Nat × Nat)} : (fsO E I J ds).length = ds.length := by simp [fsO]
theorem fsO_set {E : zE} {I I' : Nat → Int} {J J' : Nat → Int64} {ds : List (Nat × Nat)} {i : Nat} {d : Nat × Nat} (h : ds[i]? = some d) (hI : ∀ j, j ≠ i → I' j = I j) (hJ : ∀ j, j ≠ i → J' j = J j) : fsO E I' J' ds = (fsO E I J ds).set i (fv E I' J' d i) := by
  have hl : i < ds.length := (List.getElem?_eq_some_iff.mp h).1
  apply List.ext_getElem?
  intro j
  by_cases e : j = i
  · subst e
    rw [List.getElem?_set_self (by rw [fsO_len]; exact hl), fsO_at h]
  · rw [List.getElem?_set_ne (fun q => e q.symm)]
    by_cases hj : j < ds.length
    · have hg : ds[j]? = some ds[j] := List.getElem?_eq_getElem hj
      rw [fsO_at hg, fsO_at hg]
      unfold fv
      rw [hI j e, hJ j e]
    · rw [List.getElem?_eq_none (by rw [fsO_len]; omega), List.getElem?_eq_none (by rw [fsO_len]; omega)]
theorem zI_same (M : zM) (k i : Nat) (z : Int) : (zI M k i z).1 k i = z := by simp [zI]
theorem zI_row {M : zM} {k i j : Nat} {z : Int} (h : j ≠ i) : (zI M k i z).1 k j = M.1 k j := by simp [zI, h]
theorem zI_ne {M : zM} {k i a b : Nat} {z : Int} (h : a ≠ k) : (zI M k i z).1 a b = M.1 a b := by simp [zI, h]
theorem zI_2 (M : zM) (k i : Nat) (z : Int) : (zI M k i z).2 = M.2 := rfl
theorem zJ_same (M : zM) (k i : Nat) (x : Int64) : (zJ M k i x).2 k i = x := by simp [zJ]
theorem zJ_row {M : zM} {k i j : Nat} {x : Int64} (h : j ≠ i) : (zJ M k i x).2 k j = M.2 k j := by simp [zJ, h]
theorem zJ_ne {M : zM} {k i a b : Nat} {x : Int64} (h : a ≠ k) : (zJ M k i x).2 a b = M.2 a b := by simp [zJ, h]
theorem zJ_1 (M : zM) (k i : Nat) (x : Int64) : (zJ M k i x).1 = M.1 := rfl
theorem zI_at (M : zM) (k i a b : Nat) (z : Int) : (zI M k i z).1 a b = if a = k ∧ b = i then z else M.1 a b := rfl
theorem zJ_at (M : zM) (k i a b : Nat) (x : Int64) : (zJ M k i x).2 a b = if a = k ∧ b = i then x else M.2 a b := rfl
theorem zce_I {sd : zSd} {E : zE} {M : zM} {k i j : Nat} {z : Int} (h : j ≠ k) : zce sd E (zI M k i z) j = zce sd E M j := by
  have e : (zI M k i z).1 j = M.1 j := funext fun b => zI_ne h
  unfold zce
  rw [e, zI_2]
theorem zce_J {sd : zSd} {E : zE} {M : zM} {k i j : Nat} {x : Int64} (h : j ≠ k) : zce sd E (zJ M k i x) j = zce sd E M j := by
  have e : (zJ M k i x).2 j = M.2 j := funext fun b => zJ_ne h
  unfold zce
  rw [e, zJ_1]
theorem zce_o {sd : zSd} {E : zE} {M : zM} {k ci : Nat} (h : sd.2.1 k = (5 + ci, 0)) : zce sd E M k = .inr (ci, fsO E (M.1 k) (M.2 k) (sd.2.2.1 k)) := by
  unfold zce
  rw [h]
  rw [if_neg (by show ¬ 5 + ci = 0; omega), if_neg (by show ¬ 5 + ci = 1; omega), if_neg (by show ¬ 5 + ci = 2; omega), if_neg (by show ¬ 5 + ci = 3; omega), if_neg (by show ¬ 5 + ci = 4; omega)]
  show Sum.inr (5 + ci - 5, _) = _
  rw [Nat.add_sub_cancel_left]
theorem zce_i {sd : zSd} {E : zE} {M : zM} {k n : Nat} (h : sd.2.1 k = (0, n)) : zce sd E M k = .inl (E.2.1 0, n, .inl (fun i => iI (M.1 k i))) := by
  unfold zce; rw [h]; rfl
theorem zce_z {sd : zSd} {E : zE} {M : zM} {k n : Nat} (h : sd.2.1 k = (1, n)) : zce sd E M k = .inl (E.2.1 1, n, .inl (fun i => iI (M.1 k i))) := by
  unfold zce; rw [h]; rfl
theorem zce_l {sd : zSd} {E : zE} {M : zM} {k n : Nat} (h : sd.2.1 k = (2, n)) : zce sd E M k = .inl (E.2.1 2, n, .inr (.inl (fun i => M.2 k i))) := by
  unfold zce; rw [h]; rfl
theorem zce_b {sd : zSd} {E : zE} {M : zM} {k n : Nat} (h : sd.2.1 k = (3, n)) : zce sd E M k = .inl (E.2.1 3, n, .inr (.inr (.inr (.inr (fun i => some (E.2.2 (sd.2.2.2 k i))))))) := by
  unfold zce; rw [h]; rfl
theorem zce_r {sd : zSd} {E : zE} {M : zM} {k n : Nat} (h : sd.2.1 k = (4, n)) : zce sd E M k = .inl (E.2.1 4, n, .inr (.inr (.inr (.inr (fun i => some (E.2.2 (sd.2.2.2 k i))))))) := by
  unfold zce; rw [h]; rfl
theorem iI_upd {I : Nat → Int} {n : Nat} {z : Int} : upd (fun i => iI (I i)) n (iI z) = fun i => iI (if i = n then z else I i) := by
  funext j
  by_cases h : j = n
  · simp [upd, h]
  · simp [upd, h]
/-- a field is read -/
theorem z_get {G : zG} {cc : ByteArray} {own : String} {ret : Option FieldType} {nL fr lc : Nat} (C : zC G cc own ret nL fr lc) {M : zM} {lo : List (Option Value)} {st : List Value} {pc : Nat} {k ci slot idx Nf : Nat} {Cn : String} {T : u_T} {fd : Nat × Nat} (hk : k < G.1.1) (hs : G.1.2.1 k = (5 + ci, 0)) (hd : (G.1.2.2.1 k)[slot]? = some fd) (hci : zcl[ci]? = some (Cn, T, Nf)) (hlay : ∀ w ∈ u_ws Cn T Nf, w ∈ tb) (hsl : slot < Nf) (hlink : Cond.fieldLink own idx (T slot).1 (T slot).2.1 (T slot).2.2.1 ∈ tb) (d : decode cc pc = .ok (.getfield idx, 3)) (kk : VJ G M (pc + 3) lo (fv G.2.1 (M.1 k) (M.2 k) fd slot :: st)) : VJ G M pc lo (.ref (zad G k) :: st) := by
  obtain ⟨sd, E, P, l, p, e, R, s, m, args, below, meth, c⟩ := G
  obtain ⟨hx, hb, hr, hml, hown, hts, hK, hN, hlk, hR⟩ := C
  intro H locs ls hP hD hS hl
  have he : (zw sd E M)[k]? = some (E.2.2 k, .inr (ci, fsO E (M.1 k) (M.2 k) (sd.2.2.1 k))) := by rw [zw_at hk, zce_o hs]
  exact va_get (D := E.1) (ci := ci) (C := Cn) (T := T) (N := Nf) hx hb hts hlay hown hK hP k he hci slot hsl (hts _ hlink) (fun _ h => h) (fsO_at hd) d (kk H locs ls hP hD hS ‹_›)
/-- a field is written: an int, or a boolean -/
theorem z_putI {G : zG} {cc : ByteArray} {own : String} {ret : Option FieldType} {nL fr lc : Nat} (C : zC G cc own ret nL fr lc) {M : zM} {lo : List (Option Value)} {st : List Value} {pc : Nat} {k ci slot idx Nf : Nat} {Cn : String} {T : u_T} {x : Nat} {z : Int} {ty0 : Nat → FieldType} {ty : FieldType} (hk : k < G.1.1) (hs : G.1.2.1 k = (5 + ci, 0)) (hd : (G.1.2.2.1 k)[slot]? = some (0, x)) (hci : zcl[ci]? = some (Cn, T, Nf)) (hlay : ∀ w ∈ u_ws Cn T Nf, w ∈ tb) (hty : ∀ k, k < Nf → parseFieldDescriptor (T k).2.2.1 = some (ty0 k)) (hnm : ∀ a, a < Nf → ∀ b, b < Nf → a ≠ b → (T a).2.1 ≠ (T b).2.1) (hsl : slot < Nf) (hfin : (T slot).2.2.2 = false) (hpd : parseFieldDescriptor (T slot).2.2.1 = some ty) (hn : narrow ty (.int (iI z)) = .int (iI z)) (hfit : fits ty (.int (iI z)) = true) (hlink : Cond.fieldLink own idx (T slot).1 (T slot).2.1 (T slot).2.2.1 ∈ tb) (d : decode cc pc = .ok (.putfield idx, 3)) (kk : VJ G (zI M k slot z) (pc + 3) lo st) : VJ G M pc lo (.int (iI z) :: .ref (zad G k) :: st) := by
  obtain ⟨sd, E, P, l, p, e, R, s, m, args, below, meth, c⟩ := G
  obtain ⟨hx, hb, hr, hml, hown, hts, hK, hN, hlk, hR⟩ := C
  intro H locs ls hP hD hS hl
  have he : (zw sd E M)[k]? = some (E.2.2 k, .inr (ci, fsO E (M.1 k) (M.2 k) (sd.2.2.1 k))) := by rw [zw_at hk, zce_o hs]
  have hll : slot < (fsO E (M.1 k) (M.2 k) (sd.2.2.1 k)).length := by rw [fsO_len]; exact (List.getElem?_eq_some_iff.mp hd).1
  refine va_put (D := E.1) (ci := ci) (C := Cn) (T := T) (N := Nf) (v := .int (iI z)) hx hb hts hlay ty0 hty hnm hown hK hP hD hS k he hci slot hsl (hts _ hlink) (fun _ h => h) hfin hpd hn hfit hll d (fun H1 locs1 hP1 hD1 hS1 => ?_)
  have e : (zw sd E M).set k (E.2.2 k, .inr (ci, (fsO E (M.1 k) (M.2 k) (sd.2.2.1 k)).set slot (.int (iI z)))) = zw sd E (zI M k slot z) := by
    rw [← zw_set (M' := zI M k slot z) hk (fun j hj => zce_I hj), zce_o hs]
    rw [fsO_set (I := M.1 k) (J := M.2 k) hd (fun j hj => zI_row hj) (fun j _ => by rw [zI_2])]
    have e3 : fv E (fun j => (zI M k slot z).1 k j) (fun j => (zI M k slot z).2 k j) (0, x) slot = .int (iI z) := by
      show Value.int (iI ((zI M k slot z).1 k slot)) = _
      rw [zI_same]
    exact congrArg (fun q => (zw sd E M).set k (E.2.2 k, .inr (ci, (fsO E (M.1 k) (M.2 k) (sd.2.2.1 k)).set slot q))) e3.symm
  rw [e] at hP1 hD1
  exact kk H1 locs1 ls hP1 hD1 hS1 ‹_›
/-- a field is written: a long -/
theorem z_putJ {G : zG} {cc : ByteArray} {own : String} {ret : Option FieldType} {nL fr lc : Nat} (C : zC G cc own ret nL fr lc) {M : zM} {lo : List (Option Value)} {st : List Value} {pc : Nat} {k ci slot idx Nf : Nat} {Cn : String} {T : u_T} {x : Nat} {z : Int64} {ty0 : Nat → FieldType} (hk : k < G.1.1) (hs : G.1.2.1 k = (5 + ci, 0)) (hd : (G.1.2.2.1 k)[slot]? = some (2, x)) (hci : zcl[ci]? = some (Cn, T, Nf)) (hlay : ∀ w ∈ u_ws Cn T Nf, w ∈ tb) (hty : ∀ k, k < Nf → parseFieldDescriptor (T k).2.2.1 = some (ty0 k)) (hnm : ∀ a, a < Nf → ∀ b, b < Nf → a ≠ b → (T a).2.1 ≠ (T b).2.1) (hsl : slot < Nf) (hfin : (T slot).2.2.2 = false) (hpd : parseFieldDescriptor (T slot).2.2.1 = some .long) (hlink : Cond.fieldLink own idx (T slot).1 (T slot).2.1 (T slot).2.2.1 ∈ tb) (d : decode cc pc = .ok (.putfield idx, 3)) (kk : VJ G (zJ M k slot z) (pc + 3) lo st) : VJ G M pc lo (.long z :: .ref (zad G k) :: st) := by
  obtain ⟨sd, E, P, l, p, e, R, s, m, args, below, meth, c⟩ := G
  obtain ⟨hx, hb, hr, hml, hown, hts, hK, hN, hlk, hR⟩ := C
  intro H locs ls hP hD hS hl
  have he : (zw sd E M)[k]? = some (E.2.2 k, .inr (ci, fsO E (M.1 k) (M.2 k) (sd.2.2.1 k))) := by rw [zw_at hk, zce_o hs]
  have hll : slot < (fsO E (M.1 k) (M.2 k) (sd.2.2.1 k)).length := by rw [fsO_len]; exact (List.getElem?_eq_some_iff.mp hd).1
  refine va_put (D := E.1) (ci := ci) (C := Cn) (T := T) (N := Nf) (v := .long z) hx hb hts hlay ty0 hty hnm hown hK hP hD hS k he hci slot hsl (hts _ hlink) (fun _ h => h) hfin hpd rfl rfl hll d (fun H1 locs1 hP1 hD1 hS1 => ?_)
  have e : (zw sd E M).set k (E.2.2 k, .inr (ci, (fsO E (M.1 k) (M.2 k) (sd.2.2.1 k)).set slot (.long z))) = zw sd E (zJ M k slot z) := by
    rw [← zw_set (M' := zJ M k slot z) hk (fun j hj => zce_J hj), zce_o hs]
    rw [fsO_set (I := M.1 k) (J := M.2 k) hd (fun j _ => by rw [zJ_1]) (fun j hj => zJ_row hj)]
    have e3 : fv E (fun j => (zJ M k slot z).1 k j) (fun j => (zJ M k slot z).2 k j) (2, x) slot = .long z := by
      show Value.long ((zJ M k slot z).2 k slot) = _
      rw [zJ_same]
    exact congrArg (fun q => (zw sd E M).set k (E.2.2 k, .inr (ci, (fsO E (M.1 k) (M.2 k) (sd.2.2.1 k)).set slot q))) e3.symm
  rw [e] at hP1 hD1
  exact kk H1 locs1 ls hP1 hD1 hS1 ‹_›
theorem r_iald {G : zG} {cc : ByteArray} {own : String} {ret : Option FieldType} {nL fr lc : Nat} (C : zC G cc own ret nL fr lc) {M : zM} {lo : List (Option Value)} {st : List Value} {pc : Nat} {k n : Nat} {a : Int} (hs : G.1.2.1 k = (0, n)) (hk : k < G.1.1) (h0 : 0 ≤ a) (h1 : a < n) (hn : n < 2147483648) (d : decode cc pc = .ok (.iaload, 1)) (kk : VJ G M (pc + 1) lo (.int (iI (M.1 k a.toNat)) :: st)) : VJ G M pc lo (.int (iI a) :: .ref (zad G k) :: st) := by
  obtain ⟨sd, E, P, l, p, e, R, s, m, args, below, meth, c⟩ := G
  obtain ⟨hx, hb, hr, hml, hown, hts, hK, hN, hlk, hR⟩ := C
  intro H locs ls hP hD hS hl
  have he := (zw_at (sd := sd) (E := E) (M := M) hk).trans (congrArg (fun q => some (E.2.2 k, q)) (zce_i hs))
  obtain ⟨i1, i2⟩ := iI_in h0 h1 hn
  refine va_iald hx hb hK hP k 0 he rfl i1 d ?_
  rw [i2]
  exact kk H locs ls hP hD hS hl
theorem r_bald {G : zG} {cc : ByteArray} {own : String} {ret : Option FieldType} {nL fr lc : Nat} (C : zC G cc own ret nL fr lc) {M : zM} {lo : List (Option Value)} {st : List Value} {pc : Nat} {k n : Nat} {a : Int} (hs : G.1.2.1 k = (1, n)) (hk : k < G.1.1) (h0 : 0 ≤ a) (h1 : a < n) (hn : n < 2147483648) (d : decode cc pc = .ok (.baload, 1)) (kk : VJ G M (pc + 1) lo (.int (iI (M.1 k a.toNat)) :: st)) : VJ G M pc lo (.int (iI a) :: .ref (zad G k) :: st) := by
  obtain ⟨sd, E, P, l, p, e, R, s, m, args, below, meth, c⟩ := G
  obtain ⟨hx, hb, hr, hml, hown, hts, hK, hN, hlk, hR⟩ := C
  intro H locs ls hP hD hS hl
  have he := (zw_at (sd := sd) (E := E) (M := M) hk).trans (congrArg (fun q => some (E.2.2 k, q)) (zce_z hs))
  obtain ⟨i1, i2⟩ := iI_in h0 h1 hn
  refine va_zald hx hb hK hP k 1 he rfl i1 d ?_
  rw [i2]
  exact kk H locs ls hP hD hS hl
theorem r_lald {G : zG} {cc : ByteArray} {own : String} {ret : Option FieldType} {nL fr lc : Nat} (C : zC G cc own ret nL fr lc) {M : zM} {lo : List (Option Value)} {st : List Value} {pc : Nat} {k n : Nat} {a : Int} (hs : G.1.2.1 k = (2, n)) (hk : k < G.1.1) (h0 : 0 ≤ a) (h1 : a < n) (hn : n < 2147483648) (d : decode cc pc = .ok (.laload, 1)) (kk : VJ G M (pc + 1) lo (.long (M.2 k a.toNat) :: st)) : VJ G M pc lo (.int (iI a) :: .ref (zad G k) :: st) := by
  obtain ⟨sd, E, P, l, p, e, R, s, m, args, below, meth, c⟩ := G
  obtain ⟨hx, hb, hr, hml, hown, hts, hK, hN, hlk, hR⟩ := C
  intro H locs ls hP hD hS hl
  have he := (zw_at (sd := sd) (E := E) (M := M) hk).trans (congrArg (fun q => some (E.2.2 k, q)) (zce_l hs))
  obtain ⟨i1, i2⟩ := iI_in h0 h1 hn
  refine va_lald hx hb hK hP k 2 he rfl i1 d ?_
  rw [i2]
  exact kk H locs ls hP hD hS hl
theorem r_bmld {G : zG} {cc : ByteArray} {own : String} {ret : Option FieldType} {nL fr lc : Nat} (C : zC G cc own ret nL fr lc) {M : zM} {lo : List (Option Value)} {st : List Value} {pc : Nat} {k n : Nat} {a : Int} (hs : G.1.2.1 k = (3, n)) (hk : k < G.1.1) (h0 : 0 ≤ a) (h1 : a < n) (hn : n < 2147483648) (d : decode cc pc = .ok (.aaload, 1)) (kk : VJ G M (pc + 1) lo (.ref (zad G (G.1.2.2.2 k a.toNat)) :: st)) : VJ G M pc lo (.int (iI a) :: .ref (zad G k) :: st) := by
  obtain ⟨sd, E, P, l, p, e, R, s, m, args, below, meth, c⟩ := G
  obtain ⟨hx, hb, hr, hml, hown, hts, hK, hN, hlk, hR⟩ := C
  intro H locs ls hP hD hS hl
  have he := (zw_at (sd := sd) (E := E) (M := M) hk).trans (congrArg (fun q => some (E.2.2 k, q)) (zce_b hs))
  obtain ⟨i1, i2⟩ := iI_in h0 h1 hn
  refine va_aldq hx hb hK hP k 3 he rfl i1 d ?_
  rw [i2]
  exact kk H locs ls hP hD hS hl
theorem r_rwld {G : zG} {cc : ByteArray} {own : String} {ret : Option FieldType} {nL fr lc : Nat} (C : zC G cc own ret nL fr lc) {M : zM} {lo : List (Option Value)} {st : List Value} {pc : Nat} {k n : Nat} {a : Int} (hs : G.1.2.1 k = (4, n)) (hk : k < G.1.1) (h0 : 0 ≤ a) (h1 : a < n) (hn : n < 2147483648) (d : decode cc pc = .ok (.aaload, 1)) (kk : VJ G M (pc + 1) lo (.ref (zad G (G.1.2.2.2 k a.toNat)) :: st)) : VJ G M pc lo (.int (iI a) :: .ref (zad G k) :: st) := by
  obtain ⟨sd, E, P, l, p, e, R, s, m, args, below, meth, c⟩ := G
  obtain ⟨hx, hb, hr, hml, hown, hts, hK, hN, hlk, hR⟩ := C
  intro H locs ls hP hD hS hl
  have he := (zw_at (sd := sd) (E := E) (M := M) hk).trans (congrArg (fun q => some (E.2.2 k, q)) (zce_r hs))
  obtain ⟨i1, i2⟩ := iI_in h0 h1 hn
  have hlt : (iI a).toNatClampNeg < n := Nat.not_le.mp fun q => i1 (Or.inr q)
  refine W.aald (v := .ref (E.2.2 (sd.2.2.2 k (iI a).toNatClampNeg))) (ty := .array .int) hx hb (hP k _ he) ((hK.2 4 _ rfl).1 n (fun j => va_rf (some (E.2.2 (sd.2.2.2 k j))))) rfl (fun q => by cases q) (by show ¬ (iI a < 0 ∨ (arrV _ _ _).slots.size ≤ _); rw [arrV_size]; exact i1) (by show (arrV _ _ _).slots[_]? = _; rw [arrV_read _ _ hlt]; rfl) rfl rfl d ?_
  rw [i2]
  exact kk H locs ls hP hD hS hl
theorem r_iast {G : zG} {cc : ByteArray} {own : String} {ret : Option FieldType} {nL fr lc : Nat} (C : zC G cc own ret nL fr lc) {M : zM} {lo : List (Option Value)} {st : List Value} {pc : Nat} {k n : Nat} {a z : Int} (hs : G.1.2.1 k = (0, n)) (hk : k < G.1.1) (h0 : 0 ≤ a) (h1 : a < n) (hn : n < 2147483648) (d : decode cc pc = .ok (.iastore, 1)) (kk : VJ G (zI M k a.toNat z) (pc + 1) lo st) : VJ G M pc lo (.int (iI z) :: .int (iI a) :: .ref (zad G k) :: st) := by
  obtain ⟨sd, E, P, l, p, e, R, s, m, args, below, meth, c⟩ := G
  obtain ⟨hx, hb, hr, hml, hown, hts, hK, hN, hlk, hR⟩ := C
  intro H locs ls hP hD hS hl
  have he := (zw_at (sd := sd) (E := E) (M := M) hk).trans (congrArg (fun q => some (E.2.2 k, q)) (zce_i hs))
  obtain ⟨i1, i2⟩ := iI_in h0 h1 hn
  refine va_iast hx hb hK hP hD hS k 0 he rfl i1 d (fun H1 locs1 hP1 hD1 hS1 => ?_)
  rw [i2, iI_upd] at hP1 hD1
  have e : (zw sd E M).set k (E.2.2 k, .inl (E.2.1 0, n, .inl (fun i => iI (if i = a.toNat then z else M.1 k i)))) = zw sd E (zI M k a.toNat z) := by
    rw [← zw_set (M' := zI M k a.toNat z) hk (fun j hj => zce_I hj), zce_i hs]
    congr 6
    funext j
    rw [zI_at]
    by_cases q : j = a.toNat <;> simp [q]
  rw [e] at hP1 hD1
  exact kk H1 locs1 ls hP1 hD1 hS1 hl
theorem r_bast {G : zG} {cc : ByteArray} {own : String} {ret : Option FieldType} {nL fr lc : Nat} (C : zC G cc own ret nL fr lc) {M : zM} {lo : List (Option Value)} {st : List Value} {pc : Nat} {k n : Nat} {a z : Int} (hs : G.1.2.1 k = (1, n)) (hk : k < G.1.1) (h0 : 0 ≤ a) (h1 : a < n) (hn : n < 2147483648) (h01 : z = 0 ∨ z = 1) (d : decode cc pc = .ok (.bastore, 1)) (kk : VJ G (zI M k a.toNat z) (pc + 1) lo st) : VJ G M pc lo (.int (iI z) :: .int (iI a) :: .ref (zad G k) :: st) := by
  obtain ⟨sd, E, P, l, p, e, R, s, m, args, below, meth, c⟩ := G
  obtain ⟨hx, hb, hr, hml, hown, hts, hK, hN, hlk, hR⟩ := C
  intro H locs ls hP hD hS hl
  have he := (zw_at (sd := sd) (E := E) (M := M) hk).trans (congrArg (fun q => some (E.2.2 k, q)) (zce_z hs))
  obtain ⟨i1, i2⟩ := iI_in h0 h1 hn
  refine va_zast hx hb hK hP hD hS k 1 he rfl i1 d (fun H1 locs1 hP1 hD1 hS1 => ?_)
  have hz : vp_nar .boolean (iI z) = iI z := by rcases h01 with rfl | rfl <;> rfl
  rw [hz] at hP1 hD1
  rw [i2, iI_upd] at hP1 hD1
  have e : (zw sd E M).set k (E.2.2 k, .inl (E.2.1 1, n, .inl (fun i => iI (if i = a.toNat then z else M.1 k i)))) = zw sd E (zI M k a.toNat z) := by
    rw [← zw_set (M' := zI M k a.toNat z) hk (fun j hj => zce_I hj), zce_z hs]
    congr 6
    funext j
    rw [zI_at]
    by_cases q : j = a.toNat <;> simp [q]
  rw [e] at hP1 hD1
  exact kk H1 locs1 ls hP1 hD1 hS1 hl
theorem r_last {G : zG} {cc : ByteArray} {own : String} {ret : Option FieldType} {nL fr lc : Nat} (C : zC G cc own ret nL fr lc) {M : zM} {lo : List (Option Value)} {st : List Value} {pc : Nat} {k n : Nat} {a : Int} {z : Int64} (hs : G.1.2.1 k = (2, n)) (hk : k < G.1.1) (h0 : 0 ≤ a) (h1 : a < n) (hn : n < 2147483648) (d : decode cc pc = .ok (.lastore, 1)) (kk : VJ G (zJ M k a.toNat z) (pc + 1) lo st) : VJ G M pc lo (.long z :: .int (iI a) :: .ref (zad G k) :: st) := by
  obtain ⟨sd, E, P, l, p, e, R, s, m, args, below, meth, c⟩ := G
  obtain ⟨hx, hb, hr, hml, hown, hts, hK, hN, hlk, hR⟩ := C
  intro H locs ls hP hD hS hl
  have he := (zw_at (sd := sd) (E := E) (M := M) hk).trans (congrArg (fun q => some (E.2.2 k, q)) (zce_l hs))
  obtain ⟨i1, i2⟩ := iI_in h0 h1 hn
  refine va_last hx hb hK hP hD hS k 2 he rfl i1 d (fun H1 locs1 hP1 hD1 hS1 => ?_)
  rw [i2] at hP1 hD1
  have e : (zw sd E M).set k (E.2.2 k, .inl (E.2.1 2, n, .inr (.inl (vp_updL (fun i => M.2 k i) a.toNat z)))) = zw sd E (zJ M k a.toNat z) := by
    rw [← zw_set (M' := zJ M k a.toNat z) hk (fun j hj => zce_J hj), zce_l hs]
    congr 7
    funext j
    rw [zJ_at]
    by_cases q : j = a.toNat <;> simp [q, vp_updL]
  rw [e] at hP1 hD1
  exact kk H1 locs1 ls hP1 hD1 hS1 hl
theorem zK.blind {sd : zSd} {E : zE} {As : List Value} {M : zM} : FrameBlind (va_Pc As (fun U => zU sd E M U)) := by
  intro a U g mk q
  obtain ⟨q0, qP, qD, qK, qN⟩ := q
  exact ⟨q0, qP, qD, va_K.moved (u := U) (U := U.calling g mk a) (Vm.Alike.refl U.vm) qK, qN.same rfl⟩
theorem z_back {G : zG} {cc : ByteArray} {own : String} {ret : Option FieldType} {nL fr lc : Nat} (C : zC G cc own ret nL fr lc) {M : zM} {lo : List (Option Value)} {st : List Value} {pc : Nat} {st0 : List Value} {A0 : List Value} {P0 : Option Value → zM → Prop} (kk : ∀ (v : Option Value) (M' : zM), P0 v M' → VJ G M' (pc + 3) lo (v.toList ++ st)) :
    ∀ (H : Heap) (locs : List Loc) (ls : Array Slot), va_S (zA G.1 G.2.1) G.2.2.2.2.2.2.2.1.heap H locs → lh ls lo → va_Run G.2.2.2.2.1 G.2.2.2.1 G.2.2.2.2.2.1 G.2.2.2.2.2.2.1 G.2.2.2.2.2.2.2.1 G.2.2.2.2.2.2.2.2.1 G.2.2.2.2.2.2.2.2.2.1 G.2.2.2.2.2.2.2.2.2.2.1 G.2.2.2.2.2.2.2.2.2.2.2.1 G.2.2.2.2.2.2.2.2.2.2.2.2 H locs 0 0 0 0 (F0 G.2.2.2.2.2.2.2.2.1 pc ls st0) st (zQ G.1 G.2.1 P0 A0.toArray) (zA G.1 G.2.1) → W G.2.2.2.2.1 G.2.2.2.1 G.2.2.2.2.2.1 G.2.2.2.2.2.2.1 G.2.2.2.2.2.2.2.1 G.2.2.2.2.2.2.2.2.1 G.2.2.2.2.2.2.2.2.2.1 G.2.2.2.2.2.2.2.2.2.2.1 G.2.2.2.2.2.2.2.2.2.2.2.1 G.2.2.2.2.2.2.2.2.2.2.2.2 H locs 0 0 (MQ G.2.2.2.2.2.2.2.2.2.2.1 (zQ G.1 G.2.1 G.2.2.1) G.2.2.2.2.2.2.2.2.2.1 G.2.2.2.2.2.2.2.1 0 0 (zA G.1 G.2.1)) (F0 G.2.2.2.2.2.2.2.2.1 pc ls st0) := by
  obtain ⟨sd, E, P, l, p, e, R, s, m, args, below, meth, c⟩ := G
  intro H locs ls hS hl hr
  dsimp only at hS hr ⊢
  intro T hT X
  obtain ⟨v, st₀, t, T', L, h0, X', hL, e1, e2, ⟨⟨v2, M', hv, hp, hP1, hD1, hK1, hN1⟩, hz, hk⟩, stp⟩ := hr T hT X
  cases hv
  rw [h0] at hz hk
  have hS1 : va_S (zA sd E) s.heap T'.heap (locs ++ L) := ⟨Nat.le_trans hS.1 (by rw [e1]; exact hz), fun q h1 h2 => by rw [e1, hk q (Nat.lt_of_lt_of_le h1 hS.1) h2]; exact hS.2.1 q h1 h2, fun q hq => by
      rcases List.mem_append.mp hq with h | h
      · exact hS.2.2 q h
      · exact hL q h⟩
  obtain ⟨t2, a1, b1⟩ := kk v M' hp T'.heap (locs ++ L) ls (by rw [e1]; exact hP1) hD1 hS1 hl T' rfl X'
  exact ⟨t2, stp t2 a1, b1⟩
/-- invokevirtual -/
theorem z_callV {G : zG} {cc : ByteArray} {own : String} {ret : Option FieldType} {nL fr lc : Nat} (C : zC G cc own ret nL fr lc) {M : zM} {lo : List (Option Value)} {st : List Value} {pc : Nat} {idx : Nat} {y : MethodName} {bytes : ByteArray} {maxL fr2 lc2 n : Nat} {ret2 : Option FieldType} {P0 : Option Value → zM → Prop} {As : List Value} {k ci Nf : Nat} {Cn : String} {T : u_T} (hc : zK G.2.2.2.1 G.1 G.2.1 y bytes maxL ret2 fr2 lc2 (.ref (zad G k) :: As) M P0) (hk : k < G.1.1) (hs : G.1.2.1 k = (5 + ci, 0)) (hci : zcl[ci]? = some (Cn, T, Nf)) (hn : As.length = n)
    (hcode : Cond.code y bytes maxL ret2 ∈ tb) (hlink : Cond.methodLink own idx y ∈ tb) (hinst : Cond.instanceMethod y ∈ tb) (hsel : Cond.selects Cn y y ∈ tb) (hini : Cond.initialized Cn ∈ tb) (hd : y.cls = Cn ∧ y.cls ≠ "java/lang/invoke/MethodHandle" ∧ y.cls ≠ "java/lang/invoke/VarHandle" ∧ (parseMethodDescriptor y.desc).map (fun d => d.parameters.length) = some n) (hroom : fr2 + 1 ≤ fr ∧ 8 + (maxL + 11) + lc2 ≤ lc) (hcat : (st.map fun v => v.category).sum ≤ 8) (hlo : lo.length = nL)
    (d : decode cc pc = .ok (.invokevirtual idx, 3)) (kk : ∀ (v : Option Value) (M' : zM), P0 v M' → VJ G M' (pc + 3) lo (v.toList ++ st)) : VJ G M pc lo (As.reverse ++ .ref (zad G k) :: st) := by
  have hback := z_back (M := M) C (st0 := As.reverse ++ .ref (zad G k) :: st) (A0 := .ref (zad G k) :: As) kk
  obtain ⟨sd, E, P, l, p, e, R, s, m, args, below, meth, c⟩ := G
  obtain ⟨hx, hb, hr, hml, hown, hts, hK, hN, hlk, hR⟩ := C
  intro H locs ls hP hD hS hl
  dsimp only at hback hc hk hs
  have he : (zw sd E M)[k]? = some (E.2.2 k, .inr (ci, fsO E (M.1 k) (M.2 k) (sd.2.2.1 k))) := by rw [zw_at hk, zce_o hs]
  have hG : GoodIn tb (Cond.code y bytes maxL ret2 :: tb) := fun w hw => by
    rcases List.mem_cons.mp hw with rfl | hw
    · exact ⟨hcode, (tb_good _ hcode).2⟩
    · exact tb_good w hw
  have hG2 : GoodIn tb (wsV own idx Cn y (Cond.code y bytes maxL ret2 :: tb)) := fun w hw => by
    unfold wsV at hw
    rcases List.mem_append.mp hw with hw | hw
    · simp only [List.mem_cons, List.not_mem_nil, or_false] at hw
      rcases hw with rfl | rfl | rfl | rfl
      · exact tb_good _ hlink
      · exact tb_good _ hinst
      · exact tb_good _ hsel
      · exact tb_good _ hini
    · exact hG w hw
  subst hR
  exact hback H locs ls hS hl (va_runV (cc := cc) (nL := nL) (As := As) (rest := st) ⟨hx, hb, hml, hown, hts⟩ hc (cwV n hts hG2 rfl rfl rfl hd hroom) ⟨zK.blind, va_recv hK hP hci he, fun U hU hW => ⟨rfl, by rw [hU]; exact hP, hD, va_K.moved hW.alike hK, hN.warm hW⟩⟩ rfl hn (hl.1.trans hlo) rfl (lv_room hcat) d ⟨Nat.le_refl _, Nat.le_refl _⟩)
/-- invokestatic -/
theorem z_callS {G : zG} {cc : ByteArray} {own : String} {ret : Option FieldType} {nL fr lc : Nat} (C : zC G cc own ret nL fr lc) {M : zM} {lo : List (Option Value)} {st : List Value} {pc : Nat} {idx : Nat} {y : MethodName} {bytes : ByteArray} {maxL fr2 lc2 n : Nat} {ret2 : Option FieldType} {P0 : Option Value → zM → Prop} {As : List Value} (hc : zK G.2.2.2.1 G.1 G.2.1 y bytes maxL ret2 fr2 lc2 As M P0) (hn : As.length = n)
    (hcode : Cond.code y bytes maxL ret2 ∈ tb) (hlink : Cond.methodLink own idx y ∈ tb) (hstat : Cond.static y ∈ tb) (hini : Cond.initialized y.cls ∈ tb) (hd : y.cls ≠ "java/lang/invoke/MethodHandle" ∧ y.cls ≠ "java/lang/invoke/VarHandle" ∧ (parseMethodDescriptor y.desc).map (fun d => d.parameters.length) = some n) (hroom : fr2 + 1 ≤ fr ∧ 8 + (maxL + 11) + lc2 ≤ lc) (hcat : (st.map fun v => v.category).sum ≤ 8) (hlo : lo.length = nL)
    (d : decode cc pc = .ok (.invokestatic idx, 3)) (kk : ∀ (v : Option Value) (M' : zM), P0 v M' → VJ G M' (pc + 3) lo (v.toList ++ st)) : VJ G M pc lo (As.reverse ++ st) := by
  have hback := z_back (M := M) C (st0 := As.reverse ++ st) (A0 := As) kk
  obtain ⟨sd, E, P, l, p, e, R, s, m, args, below, meth, c⟩ := G
  obtain ⟨hx, hb, hr, hml, hown, hts, hK, hN, hlk, hR⟩ := C
  intro H locs ls hP hD hS hl
  dsimp only at hback hc
  have hG : GoodIn tb (Cond.code y bytes maxL ret2 :: tb) := fun w hw => by
    rcases List.mem_cons.mp hw with rfl | hw
    · exact ⟨hcode, (tb_good _ hcode).2⟩
    · exact tb_good w hw
  have hG2 : GoodIn tb (va_wsS own idx y (Cond.code y bytes maxL ret2 :: tb)) := fun w hw => by
    unfold va_wsS at hw
    rcases List.mem_append.mp hw with hw | hw
    · simp only [List.mem_cons, List.not_mem_nil, or_false] at hw
      rcases hw with rfl | rfl | rfl
      · exact tb_good _ hlink
      · exact tb_good _ hstat
      · exact tb_good _ hini
    · exact hG w hw
  subst hR
  exact hback H locs ls hS hl (va_runS (cc := cc) (nL := nL) (As := As) (rest := st) ⟨hx, hb, hml, hown, hts⟩ hc (va_cwS n hts hG2 rfl rfl rfl hd hroom) ⟨zK.blind, fun U hU hW => ⟨rfl, by rw [hU]; exact hP, hD, va_K.moved hW.alike hK, hN.warm hW⟩⟩ rfl hn (hl.1.trans hlo) rfl (lv_room hcat) d ⟨Nat.le_refl _, Nat.le_refl _⟩)
/-- invokestatic of a nest mate's private method -/
theorem z_callN {G : zG} {cc : ByteArray} {own : String} {ret : Option FieldType} {nL fr lc : Nat} (C : zC G cc own ret nL fr lc) {M : zM} {lo : List (Option Value)} {st : List Value} {pc : Nat} {idx : Nat} {y : MethodName} {bytes : ByteArray} {maxL fr2 lc2 n : Nat} {ret2 : Option FieldType} {P0 : Option Value → zM → Prop} {As : List Value} {host : String} (hc : zK G.2.2.2.1 G.1 G.2.1 y bytes maxL ret2 fr2 lc2 As M P0) (hn : As.length = n)
    (hcode : Cond.code y bytes maxL ret2 ∈ tb) (hlink : ∀ U, zN U → va_Nw (.methodLinkNest own idx y host) U) (hstat : Cond.static y ∈ tb) (hini : Cond.initialized y.cls ∈ tb) (hd : y.cls ≠ "java/lang/invoke/MethodHandle" ∧ y.cls ≠ "java/lang/invoke/VarHandle" ∧ (parseMethodDescriptor y.desc).map (fun d => d.parameters.length) = some n) (hroom : fr2 + 1 ≤ fr ∧ 8 + (maxL + 11) + lc2 ≤ lc) (hcat : (st.map fun v => v.category).sum ≤ 8) (hlo : lo.length = nL)
    (d : decode cc pc = .ok (.invokestatic idx, 3)) (kk : ∀ (v : Option Value) (M' : zM), P0 v M' → VJ G M' (pc + 3) lo (v.toList ++ st)) : VJ G M pc lo (As.reverse ++ st) := by
  have hback := z_back (M := M) C (st0 := As.reverse ++ st) (A0 := As) kk
  obtain ⟨sd, E, P, l, p, e, R, s, m, args, below, meth, c⟩ := G
  obtain ⟨hx, hb, hr, hml, hown, hts, hK, hN, hlk, hR⟩ := C
  intro H locs ls hP hD hS hl
  dsimp only at hback hc
  have hG : GoodIn tb (Cond.code y bytes maxL ret2 :: tb) := fun w hw => by
    rcases List.mem_cons.mp hw with rfl | hw
    · exact ⟨hcode, (tb_good _ hcode).2⟩
    · exact tb_good w hw
  subst hR
  exact hback H locs ls hS hl (va_runSN (cc := cc) (nL := nL) (As := As) (rest := st) ⟨hx, hb, hml, hown, hts⟩ hc ⟨va_cnB n hts hG rfl rfl rfl (hlink s hN) (hts _ hini) hd hroom, hts _ hstat, trivial⟩ ⟨zK.blind, fun U hU hW => ⟨rfl, by rw [hU]; exact hP, hD, va_K.moved hW.alike hK, hN.warm hW⟩⟩ rfl hn (hl.1.trans hlo) rfl (lv_room hcat) d ⟨Nat.le_refl _, Nat.le_refl _⟩)
theorem kkI {G : zG} {pc : Nat} {lo : List (Option Value)} {st : List Value} {p0 : Int → zM → Prop} (k : ∀ (z : Int) (M' : zM), p0 z M' → VJ G M' (pc + 3) lo (.int (iI z) :: st)) : ∀ (v : Option Value) (M' : zM), zPi p0 v M' → VJ G M' (pc + 3) lo (v.toList ++ st) := by
  rintro v M' ⟨z, rfl, h⟩
  exact k z M' h
theorem kkL {G : zG} {pc : Nat} {lo : List (Option Value)} {st : List Value} {p0 : Int64 → zM → Prop} (k : ∀ (x : Int64) (M' : zM), p0 x M' → VJ G M' (pc + 3) lo (.long x :: st)) : ∀ (v : Option Value) (M' : zM), zPl p0 v M' → VJ G M' (pc + 3) lo (v.toList ++ st) := by
  rintro v M' ⟨x, rfl, h⟩
  exact k x M' h
theorem kkV {G : zG} {pc : Nat} {lo : List (Option Value)} {st : List Value} {p0 : zM → Prop} (k : ∀ (M' : zM), p0 M' → VJ G M' (pc + 3) lo st) : ∀ (v : Option Value) (M' : zM), zPv p0 v M' → VJ G M' (pc + 3) lo (v.toList ++ st) := by
  rintro v M' ⟨rfl, h⟩
  exact k M' h
